theorem dX3_startOf_49 : decode cX3_startOf 49 = .ok (.aload_n 1, 1) := by decide +kernel
theorem dX3_startOf_50 : decode cX3_startOf 50 = .ok (.getfield 70, 3) := by decide +kernel
theorem dX3_startOf_53 : decode cX3_startOf 53 = .ok (.invokevirtual 73, 3) := by decide +kernel
theorem dX3_startOf_56 : decode cX3_startOf 56 = .ok (.istore 4, 2) := by decide +kernel
theorem dX3_startOf_58 : decode cX3_startOf 58 = .ok (.iload 4, 2) := by decide +kernel
theorem dX3_startOf_60 : decode cX3_startOf 60 = .ok (.iconst (-1), 1) := by decide +kernel
theorem dX3_startOf_61 : decode cX3_startOf 61 = .ok (.if_icmp .eq 7, 3) := by decide +kernel
theorem dX3_startOf_64 : decode cX3_startOf 64 = .ok (.iload_n 3, 1) := by decide +kernel
theorem dX3_startOf_65 : decode cX3_startOf 65 = .ok (.ifCond .eq 8, 3) := by decide +kernel
theorem dX3_startOf_68 : decode cX3_startOf 68 = .ok (.iload 4, 2) := by decide +kernel
theorem dX3_startOf_70 : decode cX3_startOf 70 = .ok (.goto 7, 3) := by decide +kernel
theorem dX3_startOf_73 : decode cX3_startOf 73 = .ok (.iload 4, 2) := by decide +kernel
theorem dX3_startOf_75 : decode cX3_startOf 75 = .ok (.iconst 2, 1) := by decide +kernel
theorem dX3_startOf_76 : decode cX3_startOf 76 = .ok (.iadd, 1) := by decide +kernel
theorem dX3_startOf_77 : decode cX3_startOf 77 = .ok (.ireturn, 1) := by decide +kernel
theorem dX3_assign_0 : decode cX3_assign 0 = .ok (.iload 5, 2) := by decide +kernel
theorem dX3_assign_2 : decode cX3_assign 2 = .ok (.aload_n 0, 1) := by decide +kernel
theorem dX3_assign_3 : decode cX3_assign 3 = .ok (.getfield 16, 3) := by decide +kernel
theorem dX3_assign_6 : decode cX3_assign 6 = .ok (.if_icmp .lt 5, 3) := by decide +kernel
theorem dX3_assign_9 : decode cX3_assign 9 = .ok (.iconst 0, 1) := by decide +kernel
theorem dX3_assign_10 : decode cX3_assign 10 = .ok (.ireturn, 1) := by decide +kernel
theorem dX3_assign_11 : decode cX3_assign 11 = .ok (.iload_n 3, 1) := by decide +kernel
theorem dX3_assign_12 : decode cX3_assign 12 = .ok (.aload_n 2, 1) := by decide +kernel
theorem dX3_assign_13 : decode cX3_assign 13 = .ok (.getfield 79, 3) := by decide +kernel
theorem dX3_assign_16 : decode cX3_assign 16 = .ok (.if_icmp .lt 23, 3) := by decide +kernel
theorem dX3_assign_19 : decode cX3_assign 19 = .ok (.aload_n 0, 1) := by decide +kernel
theorem dX3_assign_20 : decode cX3_assign 20 = .ok (.iload 5, 2) := by decide +kernel
theorem dX3_assign_22 : decode cX3_assign 22 = .ok (.iconst 4, 1) := by decide +kernel
theorem dX3_assign_23 : decode cX3_assign 23 = .ok (.aload_n 1, 1) := by decide +kernel
theorem dX3_assign_24 : decode cX3_assign 24 = .ok (.getfield 79, 3) := by decide +kernel
theorem dX3_assign_27 : decode cX3_assign 27 = .ok (.iload 4, 2) := by decide +kernel
theorem dX3_assign_29 : decode cX3_assign 29 = .ok (.invokestatic 82, 3) := by decide +kernel
theorem dX3_assign_32 : decode cX3_assign 32 = .ok (.isub, 1) := by decide +kernel
theorem dX3_assign_33 : decode cX3_assign 33 = .ok (.imul, 1) := by decide +kernel
theorem dX3_assign_34 : decode cX3_assign 34 = .ok (.iadd, 1) := by decide +kernel
theorem dX3_assign_35 : decode cX3_assign 35 = .ok (.invokevirtual 88, 3) := by decide +kernel
theorem dX3_assign_38 : decode cX3_assign 38 = .ok (.ireturn, 1) := by decide +kernel
theorem dX3_assign_39 : decode cX3_assign 39 = .ok (.iconst 0, 1) := by decide +kernel
theorem dX3_assign_40 : decode cX3_assign 40 = .ok (.istore 6, 2) := by decide +kernel
theorem dX3_assign_42 : decode cX3_assign 42 = .ok (.iconst 0, 1) := by decide +kernel
theorem dX3_assign_43 : decode cX3_assign 43 = .ok (.istore 7, 2) := by decide +kernel
theorem dX3_assign_45 : decode cX3_assign 45 = .ok (.iload 7, 2) := by decide +kernel
theorem dX3_assign_47 : decode cX3_assign 47 = .ok (.aload_n 1, 1) := by decide +kernel
theorem dX3_assign_48 : decode cX3_assign 48 = .ok (.getfield 79, 3) := by decide +kernel
theorem dX3_assign_51 : decode cX3_assign 51 = .ok (.if_icmp .ge 38, 3) := by decide +kernel
theorem dX3_assign_54 : decode cX3_assign 54 = .ok (.iload 4, 2) := by decide +kernel
theorem dX3_assign_56 : decode cX3_assign 56 = .ok (.iload 7, 2) := by decide +kernel
theorem dX3_assign_58 : decode cX3_assign 58 = .ok (.ishr, 1) := by decide +kernel
theorem dX3_assign_59 : decode cX3_assign 59 = .ok (.iconst 1, 1) := by decide +kernel
theorem dX3_assign_60 : decode cX3_assign 60 = .ok (.iand, 1) := by decide +kernel
theorem dX3_assign_61 : decode cX3_assign 61 = .ok (.ifCond .ne 22, 3) := by decide +kernel
theorem dX3_assign_64 : decode cX3_assign 64 = .ok (.aload_n 0, 1) := by decide +kernel
theorem dX3_assign_65 : decode cX3_assign 65 = .ok (.aload_n 1, 1) := by decide +kernel
theorem dX3_assign_66 : decode cX3_assign 66 = .ok (.aload_n 2, 1) := by decide +kernel
theorem dX3_assign_67 : decode cX3_assign 67 = .ok (.iload_n 3, 1) := by decide +kernel
theorem dX3_assign_68 : decode cX3_assign 68 = .ok (.iload 7, 2) := by decide +kernel
theorem dX3_assign_70 : decode cX3_assign 70 = .ok (.iload 4, 2) := by decide +kernel
theorem dX3_assign_72 : decode cX3_assign 72 = .ok (.iload 5, 2) := by decide +kernel
theorem dX3_assign_74 : decode cX3_assign 74 = .ok (.invokevirtual 92, 3) := by decide +kernel
theorem dX3_assign_77 : decode cX3_assign 77 = .ok (.ifCond .eq 6, 3) := by decide +kernel
theorem dX3_assign_80 : decode cX3_assign 80 = .ok (.iconst 1, 1) := by decide +kernel
theorem dX3_assign_81 : decode cX3_assign 81 = .ok (.istore 6, 2) := by decide +kernel
theorem dX3_assign_83 : decode cX3_assign 83 = .ok (.iinc 7 1, 3) := by decide +kernel
theorem dX3_assign_86 : decode cX3_assign 86 = .ok (.goto (-41), 3) := by decide +kernel
theorem dX3_assign_89 : decode cX3_assign 89 = .ok (.aload_n 0, 1) := by decide +kernel
theorem dX3_assign_90 : decode cX3_assign 90 = .ok (.getfield 34, 3) := by decide +kernel
theorem dX3_assign_93 : decode cX3_assign 93 = .ok (.getfield 96, 3) := by decide +kernel
theorem dX3_assign_96 : decode cX3_assign 96 = .ok (.aload_n 2, 1) := by decide +kernel
theorem dX3_assign_97 : decode cX3_assign 97 = .ok (.getfield 102, 3) := by decide +kernel
theorem dX3_assign_100 : decode cX3_assign 100 = .ok (.iload_n 3, 1) := by decide +kernel
theorem dX3_assign_101 : decode cX3_assign 101 = .ok (.iaload, 1) := by decide +kernel
theorem dX3_assign_102 : decode cX3_assign 102 = .ok (.baload, 1) := by decide +kernel
theorem dX3_assign_103 : decode cX3_assign 103 = .ok (.ifCond .eq 42, 3) := by decide +kernel
theorem dX3_assign_106 : decode cX3_assign 106 = .ok (.aload_n 0, 1) := by decide +kernel
theorem dX3_assign_107 : decode cX3_assign 107 = .ok (.getfield 9, 3) := by decide +kernel
theorem dX3_assign_110 : decode cX3_assign 110 = .ok (.iload_n 3, 1) := by decide +kernel
theorem dX3_assign_111 : decode cX3_assign 111 = .ok (.bipush 9, 2) := by decide +kernel
theorem dX3_assign_113 : decode cX3_assign 113 = .ok (.iastore, 1) := by decide +kernel
theorem dX3_assign_114 : decode cX3_assign 114 = .ok (.aload_n 0, 1) := by decide +kernel
theorem dX3_assign_115 : decode cX3_assign 115 = .ok (.aload_n 1, 1) := by decide +kernel
theorem dX3_assign_116 : decode cX3_assign 116 = .ok (.aload_n 2, 1) := by decide +kernel
theorem dX3_assign_117 : decode cX3_assign 117 = .ok (.iload_n 3, 1) := by decide +kernel
theorem dX3_assign_118 : decode cX3_assign 118 = .ok (.iconst 1, 1) := by decide +kernel
theorem dX3_assign_119 : decode cX3_assign 119 = .ok (.iadd, 1) := by decide +kernel
theorem dX3_assign_120 : decode cX3_assign 120 = .ok (.iload 4, 2) := by decide +kernel
theorem dX3_assign_122 : decode cX3_assign 122 = .ok (.iload 5, 2) := by decide +kernel
theorem dX3_assign_124 : decode cX3_assign 124 = .ok (.bipush 7, 2) := by decide +kernel
theorem dX3_assign_126 : decode cX3_assign 126 = .ok (.iadd, 1) := by decide +kernel
theorem dX3_assign_127 : decode cX3_assign 127 = .ok (.invokevirtual 51, 3) := by decide +kernel
theorem dX3_assign_130 : decode cX3_assign 130 = .ok (.ifCond .ne 8, 3) := by decide +kernel
theorem dX3_assign_133 : decode cX3_assign 133 = .ok (.iload 6, 2) := by decide +kernel
theorem dX3_assign_135 : decode cX3_assign 135 = .ok (.ifCond .eq 7, 3) := by decide +kernel
theorem dX3_assign_138 : decode cX3_assign 138 = .ok (.iconst 1, 1) := by decide +kernel
theorem dX3_assign_139 : decode cX3_assign 139 = .ok (.goto 4, 3) := by decide +kernel
theorem dX3_assign_142 : decode cX3_assign 142 = .ok (.iconst 0, 1) := by decide +kernel
theorem dX3_assign_143 : decode cX3_assign 143 = .ok (.istore 6, 2) := by decide +kernel
theorem dX3_assign_145 : decode cX3_assign 145 = .ok (.iload 6, 2) := by decide +kernel
theorem dX3_assign_147 : decode cX3_assign 147 = .ok (.ireturn, 1) := by decide +kernel
theorem dX3_take_0 : decode cX3_take 0 = .ok (.aload_n 0, 1) := by decide +kernel
theorem dX3_take_1 : decode cX3_take 1 = .ok (.getfield 26, 3) := by decide +kernel
theorem dX3_take_4 : decode cX3_take 4 = .ok (.aload_n 1, 1) := by decide +kernel
theorem dX3_take_5 : decode cX3_take 5 = .ok (.getfield 102, 3) := by decide +kernel
theorem dX3_take_8 : decode cX3_take 8 = .ok (.iload 4, 2) := by decide +kernel
theorem dX3_take_10 : decode cX3_take 10 = .ok (.iaload, 1) := by decide +kernel
theorem dX3_take_11 : decode cX3_take 11 = .ok (.aload_n 2, 1) := by decide +kernel
theorem dX3_take_12 : decode cX3_take 12 = .ok (.getfield 102, 3) := by decide +kernel
theorem dX3_take_15 : decode cX3_take 15 = .ok (.iload_n 3, 1) := by decide +kernel
theorem dX3_take_16 : decode cX3_take 16 = .ok (.iaload, 1) := by decide +kernel
theorem dX3_take_17 : decode cX3_take 17 = .ok (.invokevirtual 73, 3) := by decide +kernel
theorem dX3_take_20 : decode cX3_take 20 = .ok (.istore 7, 2) := by decide +kernel
theorem dX3_take_22 : decode cX3_take 22 = .ok (.iload 7, 2) := by decide +kernel
theorem dX3_take_24 : decode cX3_take 24 = .ok (.iconst (-1), 1) := by decide +kernel
theorem dX3_take_25 : decode cX3_take 25 = .ok (.if_icmp .ne 5, 3) := by decide +kernel
theorem dX3_take_28 : decode cX3_take 28 = .ok (.iconst 0, 1) := by decide +kernel
theorem dX3_take_29 : decode cX3_take 29 = .ok (.ireturn, 1) := by decide +kernel
theorem dX3_take_30 : decode cX3_take 30 = .ok (.aload_n 0, 1) := by decide +kernel
theorem dX3_take_31 : decode cX3_take 31 = .ok (.getfield 9, 3) := by decide +kernel
theorem dX3_take_34 : decode cX3_take 34 = .ok (.iload_n 3, 1) := by decide +kernel
theorem dX3_take_35 : decode cX3_take 35 = .ok (.iload 4, 2) := by decide +kernel
theorem dX3_take_37 : decode cX3_take 37 = .ok (.iastore, 1) := by decide +kernel
theorem dX3_take_38 : decode cX3_take 38 = .ok (.iload 4, 2) := by decide +kernel
theorem dX3_take_40 : decode cX3_take 40 = .ok (.iload_n 3, 1) := by decide +kernel
theorem dX3_take_41 : decode cX3_take 41 = .ok (.if_icmp .ne 7, 3) := by decide +kernel
theorem dX3_take_44 : decode cX3_take 44 = .ok (.iconst 0, 1) := by decide +kernel
theorem dX3_take_45 : decode cX3_take 45 = .ok (.goto 4, 3) := by decide +kernel
theorem dX3_take_48 : decode cX3_take 48 = .ok (.iconst 1, 1) := by decide +kernel
theorem dX3_take_49 : decode cX3_take 49 = .ok (.istore 8, 2) := by decide +kernel
theorem dX3_take_51 : decode cX3_take 51 = .ok (.aload_n 0, 1) := by decide +kernel
theorem dX3_take_52 : decode cX3_take 52 = .ok (.aload_n 1, 1) := by decide +kernel
theorem dX3_take_53 : decode cX3_take 53 = .ok (.aload_n 2, 1) := by decide +kernel
theorem dX3_take_54 : decode cX3_take 54 = .ok (.iload_n 3, 1) := by decide +kernel
theorem dX3_take_55 : decode cX3_take 55 = .ok (.iconst 1, 1) := by decide +kernel
theorem dX3_take_56 : decode cX3_take 56 = .ok (.iadd, 1) := by decide +kernel
theorem dX3_take_57 : decode cX3_take 57 = .ok (.iload 5, 2) := by decide +kernel
theorem dX3_take_59 : decode cX3_take 59 = .ok (.iconst 1, 1) := by decide +kernel
theorem dX3_take_60 : decode cX3_take 60 = .ok (.iload 4, 2) := by decide +kernel
theorem dX3_take_62 : decode cX3_take 62 = .ok (.ishl, 1) := by decide +kernel
theorem dX3_take_63 : decode cX3_take 63 = .ok (.ior, 1) := by decide +kernel
theorem dX3_take_64 : decode cX3_take 64 = .ok (.iload 6, 2) := by decide +kernel
theorem dX3_take_66 : decode cX3_take 66 = .ok (.iload 7, 2) := by decide +kernel
theorem dX3_take_68 : decode cX3_take 68 = .ok (.iadd, 1) := by decide +kernel
theorem dX3_take_69 : decode cX3_take 69 = .ok (.iload 8, 2) := by decide +kernel
theorem dX3_take_71 : decode cX3_take 71 = .ok (.iadd, 1) := by decide +kernel
theorem dX3_take_72 : decode cX3_take 72 = .ok (.invokevirtual 51, 3) := by decide +kernel
theorem dX3_take_75 : decode cX3_take 75 = .ok (.ireturn, 1) := by decide +kernel
theorem dX3_settle_0 : decode cX3_settle 0 = .ok (.iload_n 1, 1) := by decide +kernel
theorem dX3_settle_1 : decode cX3_settle 1 = .ok (.aload_n 0, 1) := by decide +kernel
theorem dX3_settle_2 : decode cX3_settle 2 = .ok (.getfield 16, 3) := by decide +kernel
theorem dX3_settle_5 : decode cX3_settle 5 = .ok (.if_icmp .lt 5, 3) := by decide +kernel
theorem dX3_settle_8 : decode cX3_settle 8 = .ok (.iconst 0, 1) := by decide +kernel
theorem dX3_settle_9 : decode cX3_settle 9 = .ok (.ireturn, 1) := by decide +kernel
theorem dX3_settle_10 : decode cX3_settle 10 = .ok (.aload_n 0, 1) := by decide +kernel
theorem dX3_settle_11 : decode cX3_settle 11 = .ok (.iload_n 1, 1) := by decide +kernel
theorem dX3_settle_12 : decode cX3_settle 12 = .ok (.putfield 16, 3) := by decide +kernel
theorem dX3_settle_15 : decode cX3_settle 15 = .ok (.aload_n 0, 1) := by decide +kernel
theorem dX3_settle_16 : decode cX3_settle 16 = .ok (.getfield 9, 3) := by decide +kernel
theorem dX3_settle_19 : decode cX3_settle 19 = .ok (.iconst 0, 1) := by decide +kernel
theorem dX3_settle_20 : decode cX3_settle 20 = .ok (.aload_n 0, 1) := by decide +kernel
theorem dX3_settle_21 : decode cX3_settle 21 = .ok (.getfield 23, 3) := by decide +kernel
theorem dX3_settle_24 : decode cX3_settle 24 = .ok (.iconst 0, 1) := by decide +kernel
theorem dX3_settle_25 : decode cX3_settle 25 = .ok (.iconst 4, 1) := by decide +kernel
theorem dX3_settle_26 : decode cX3_settle 26 = .ok (.invokestatic 105, 3) := by decide +kernel
theorem dX3_settle_29 : decode cX3_settle 29 = .ok (.iconst 1, 1) := by decide +kernel
theorem dX3_settle_30 : decode cX3_settle 30 = .ok (.ireturn, 1) := by decide +kernel
theorem dX4_init_0 : decode cX4_init 0 = .ok (.aload_n 0, 1) := by decide +kernel
theorem dX4_init_1 : decode cX4_init 1 = .ok (.invokespecial 3, 3) := by decide +kernel
theorem dX4_init_4 : decode cX4_init 4 = .ok (.aload_n 0, 1) := by decide +kernel
theorem dX4_init_5 : decode cX4_init 5 = .ok (.lconst 0, 1) := by decide +kernel
theorem dX4_init_6 : decode cX4_init 6 = .ok (.putfield 9, 3) := by decide +kernel
theorem dX4_init_9 : decode cX4_init 9 = .ok (.aload_n 0, 1) := by decide +kernel
theorem dX4_init_10 : decode cX4_init 10 = .ok (.iconst (-1), 1) := by decide +kernel
theorem dX4_init_11 : decode cX4_init 11 = .ok (.putfield 15, 3) := by decide +kernel
theorem dX4_init_14 : decode cX4_init 14 = .ok (.aload_n 0, 1) := by decide +kernel
theorem dX4_init_15 : decode cX4_init 15 = .ok (.iconst (-1), 1) := by decide +kernel
theorem dX4_init_16 : decode cX4_init 16 = .ok (.putfield 19, 3) := by decide +kernel
theorem dX4_init_19 : decode cX4_init 19 = .ok (.aload_n 0, 1) := by decide +kernel
theorem dX4_init_20 : decode cX4_init 20 = .ok (.iconst 0, 1) := by decide +kernel
theorem dX4_init_21 : decode cX4_init 21 = .ok (.putfield 22, 3) := by decide +kernel
theorem dX4_init_24 : decode cX4_init 24 = .ok (.aload_n 0, 1) := by decide +kernel
theorem dX4_init_25 : decode cX4_init 25 = .ok (.iconst 0, 1) := by decide +kernel
theorem dX4_init_26 : decode cX4_init 26 = .ok (.putfield 25, 3) := by decide +kernel
theorem dX4_init_29 : decode cX4_init 29 = .ok (.return_, 1) := by decide +kernel
theorem dX4_noteFailure_0 : decode cX4_noteFailure 0 = .ok (.aload_n 0, 1) := by decide +kernel
theorem dX4_noteFailure_1 : decode cX4_noteFailure 1 = .ok (.iload_n 1, 1) := by decide +kernel
theorem dX4_noteFailure_2 : decode cX4_noteFailure 2 = .ok (.putfield 15, 3) := by decide +kernel
theorem dX4_noteFailure_5 : decode cX4_noteFailure 5 = .ok (.aload_n 0, 1) := by decide +kernel
theorem dX4_noteFailure_6 : decode cX4_noteFailure 6 = .ok (.iload_n 2, 1) := by decide +kernel
theorem dX4_noteFailure_7 : decode cX4_noteFailure 7 = .ok (.putfield 19, 3) := by decide +kernel
theorem dX4_noteFailure_10 : decode cX4_noteFailure 10 = .ok (.return_, 1) := by decide +kernel
theorem dX5_init_0 : decode cX5_init 0 = .ok (.aload_n 0, 1) := by decide +kernel
theorem dX5_init_1 : decode cX5_init 1 = .ok (.invokespecial 3, 3) := by decide +kernel
theorem dX5_init_4 : decode cX5_init 4 = .ok (.aload_n 0, 1) := by decide +kernel
theorem dX5_init_5 : decode cX5_init 5 = .ok (.iconst 0, 1) := by decide +kernel
theorem dX5_init_6 : decode cX5_init 6 = .ok (.putfield 9, 3) := by decide +kernel
theorem dX5_init_9 : decode cX5_init 9 = .ok (.aload_n 0, 1) := by decide +kernel
theorem dX5_init_10 : decode cX5_init 10 = .ok (.iconst 0, 1) := by decide +kernel
theorem dX5_init_11 : decode cX5_init 11 = .ok (.putfield 15, 3) := by decide +kernel
theorem dX5_init_14 : decode cX5_init 14 = .ok (.aload_n 0, 1) := by decide +kernel
theorem dX5_init_15 : decode cX5_init 15 = .ok (.iconst 0, 1) := by decide +kernel
theorem dX5_init_16 : decode cX5_init 16 = .ok (.putfield 18, 3) := by decide +kernel
theorem dX5_init_19 : decode cX5_init 19 = .ok (.aload_n 0, 1) := by decide +kernel
theorem dX5_init_20 : decode cX5_init 20 = .ok (.iconst 4, 1) := by decide +kernel
theorem dX5_init_21 : decode cX5_init 21 = .ok (.newarray .int, 2) := by decide +kernel
theorem dX5_init_23 : decode cX5_init 23 = .ok (.putfield 21, 3) := by decide +kernel
theorem dX5_init_26 : decode cX5_init 26 = .ok (.aload_n 0, 1) := by decide +kernel
theorem dX5_init_27 : decode cX5_init 27 = .ok (.iconst 0, 1) := by decide +kernel
theorem dX5_init_28 : decode cX5_init 28 = .ok (.putfield 25, 3) := by decide +kernel
theorem dX5_init_31 : decode cX5_init 31 = .ok (.aload_n 0, 1) := by decide +kernel
theorem dX5_init_32 : decode cX5_init 32 = .ok (.iconst (-1), 1) := by decide +kernel
theorem dX5_init_33 : decode cX5_init 33 = .ok (.putfield 28, 3) := by decide +kernel
theorem dX5_init_36 : decode cX5_init 36 = .ok (.aload_n 0, 1) := by decide +kernel
theorem dX5_init_37 : decode cX5_init 37 = .ok (.iconst 0, 1) := by decide +kernel
theorem dX5_init_38 : decode cX5_init 38 = .ok (.putfield 31, 3) := by decide +kernel
theorem dX5_init_41 : decode cX5_init 41 = .ok (.aload_n 0, 1) := by decide +kernel
theorem dX5_init_42 : decode cX5_init 42 = .ok (.iconst 4, 1) := by decide +kernel
theorem dX5_init_43 : decode cX5_init 43 = .ok (.newarray .int, 2) := by decide +kernel
theorem dX5_init_45 : decode cX5_init 45 = .ok (.putfield 34, 3) := by decide +kernel
theorem dX5_init_48 : decode cX5_init 48 = .ok (.return_, 1) := by decide +kernel
theorem dX5_become_0 : decode cX5_become 0 = .ok (.aload_n 0, 1) := by decide +kernel
theorem dX5_become_1 : decode cX5_become 1 = .ok (.iload_n 1, 1) := by decide +kernel
theorem dX5_become_2 : decode cX5_become 2 = .ok (.putfield 9, 3) := by decide +kernel
theorem dX5_become_5 : decode cX5_become 5 = .ok (.aload_n 0, 1) := by decide +kernel
theorem dX5_become_6 : decode cX5_become 6 = .ok (.iload_n 2, 1) := by decide +kernel
theorem dX5_become_7 : decode cX5_become 7 = .ok (.bipush 7, 2) := by decide +kernel
theorem dX5_become_9 : decode cX5_become 9 = .ok (.iand, 1) := by decide +kernel
theorem dX5_become_10 : decode cX5_become 10 = .ok (.putfield 15, 3) := by decide +kernel
theorem dX5_become_13 : decode cX5_become 13 = .ok (.aload_n 0, 1) := by decide +kernel
theorem dX5_become_14 : decode cX5_become 14 = .ok (.iconst 0, 1) := by decide +kernel
theorem dX5_become_15 : decode cX5_become 15 = .ok (.putfield 18, 3) := by decide +kernel
theorem dX5_become_18 : decode cX5_become 18 = .ok (.iload_n 2, 1) := by decide +kernel
theorem dX5_become_19 : decode cX5_become 19 = .ok (.iconst 3, 1) := by decide +kernel
theorem dX5_become_20 : decode cX5_become 20 = .ok (.ishr, 1) := by decide +kernel
theorem dX5_become_21 : decode cX5_become 21 = .ok (.istore_n 3, 1) := by decide +kernel
theorem dX5_become_22 : decode cX5_become 22 = .ok (.iconst 0, 1) := by decide +kernel
theorem dX5_become_23 : decode cX5_become 23 = .ok (.istore 4, 2) := by decide +kernel
theorem dX5_become_25 : decode cX5_become 25 = .ok (.iload 4, 2) := by decide +kernel
theorem dX5_become_27 : decode cX5_become 27 = .ok (.iconst 4, 1) := by decide +kernel
theorem dX5_become_28 : decode cX5_become 28 = .ok (.if_icmp .ge 40, 3) := by decide +kernel
theorem dX5_become_31 : decode cX5_become 31 = .ok (.iload_n 3, 1) := by decide +kernel
theorem dX5_become_32 : decode cX5_become 32 = .ok (.ifCond .eq 36, 3) := by decide +kernel
theorem dX5_become_35 : decode cX5_become 35 = .ok (.aload_n 0, 1) := by decide +kernel
theorem dX5_become_36 : decode cX5_become 36 = .ok (.getfield 21, 3) := by decide +kernel
theorem dX5_become_39 : decode cX5_become 39 = .ok (.iload 4, 2) := by decide +kernel
theorem dX5_become_41 : decode cX5_become 41 = .ok (.iload_n 3, 1) := by decide +kernel
theorem dX5_become_42 : decode cX5_become 42 = .ok (.bipush 7, 2) := by decide +kernel
theorem dX5_become_44 : decode cX5_become 44 = .ok (.iand, 1) := by decide +kernel
theorem dX5_become_45 : decode cX5_become 45 = .ok (.iconst 1, 1) := by decide +kernel
theorem dX5_become_46 : decode cX5_become 46 = .ok (.isub, 1) := by decide +kernel
theorem dX5_become_47 : decode cX5_become 47 = .ok (.iastore, 1) := by decide +kernel
theorem dX5_become_48 : decode cX5_become 48 = .ok (.iload_n 3, 1) := by decide +kernel
theorem dX5_become_49 : decode cX5_become 49 = .ok (.iconst 3, 1) := by decide +kernel
theorem dX5_become_50 : decode cX5_become 50 = .ok (.ishr, 1) := by decide +kernel
theorem dX5_become_51 : decode cX5_become 51 = .ok (.istore_n 3, 1) := by decide +kernel
theorem dX5_become_52 : decode cX5_become 52 = .ok (.aload_n 0, 1) := by decide +kernel
theorem dX5_become_53 : decode cX5_become 53 = .ok (.dup, 1) := by decide +kernel
theorem dX5_become_54 : decode cX5_become 54 = .ok (.getfield 18, 3) := by decide +kernel
theorem dX5_become_57 : decode cX5_become 57 = .ok (.iconst 1, 1) := by decide +kernel
theorem dX5_become_58 : decode cX5_become 58 = .ok (.iadd, 1) := by decide +kernel
theorem dX5_become_59 : decode cX5_become 59 = .ok (.putfield 18, 3) := by decide +kernel
theorem dX5_become_62 : decode cX5_become 62 = .ok (.iinc 4 1, 3) := by decide +kernel
theorem dX5_become_65 : decode cX5_become 65 = .ok (.goto (-40), 3) := by decide +kernel
theorem dX5_become_68 : decode cX5_become 68 = .ok (.aload_n 0, 1) := by decide +kernel
theorem dX5_become_69 : decode cX5_become 69 = .ok (.iconst 0, 1) := by decide +kernel
theorem dX5_become_70 : decode cX5_become 70 = .ok (.iconst (-1), 1) := by decide +kernel
theorem dX5_become_71 : decode cX5_become 71 = .ok (.iconst 0, 1) := by decide +kernel
theorem dX5_become_72 : decode cX5_become 72 = .ok (.invokevirtual 37, 3) := by decide +kernel
theorem dX5_become_75 : decode cX5_become 75 = .ok (.aload_n 0, 1) := by decide +kernel
theorem dX5_become_76 : decode cX5_become 76 = .ok (.getfield 34, 3) := by decide +kernel
theorem dX5_become_79 : decode cX5_become 79 = .ok (.iconst 1, 1) := by decide +kernel
theorem dX5_become_80 : decode cX5_become 80 = .ok (.invokestatic 41, 3) := by decide +kernel
theorem dX5_become_83 : decode cX5_become 83 = .ok (.return_, 1) := by decide +kernel
theorem dX5_setWork_0 : decode cX5_setWork 0 = .ok (.aload_n 0, 1) := by decide +kernel
theorem dX5_setWork_1 : decode cX5_setWork 1 = .ok (.iload_n 1, 1) := by decide +kernel
theorem dX5_setWork_2 : decode cX5_setWork 2 = .ok (.putfield 25, 3) := by decide +kernel
theorem dX5_setWork_5 : decode cX5_setWork 5 = .ok (.aload_n 0, 1) := by decide +kernel
theorem dX5_setWork_6 : decode cX5_setWork 6 = .ok (.iload_n 2, 1) := by decide +kernel
theorem dX5_setWork_7 : decode cX5_setWork 7 = .ok (.putfield 28, 3) := by decide +kernel
theorem dX5_setWork_10 : decode cX5_setWork 10 = .ok (.aload_n 0, 1) := by decide +kernel
theorem dX5_setWork_11 : decode cX5_setWork 11 = .ok (.iload_n 3, 1) := by decide +kernel
theorem dX5_setWork_12 : decode cX5_setWork 12 = .ok (.putfield 31, 3) := by decide +kernel
theorem dX5_setWork_15 : decode cX5_setWork 15 = .ok (.return_, 1) := by decide +kernel
theorem dX6_init_0 : decode cX6_init 0 = .ok (.aload_n 0, 1) := by decide +kernel
theorem dX6_init_1 : decode cX6_init 1 = .ok (.invokespecial 3, 3) := by decide +kernel
theorem dX6_init_4 : decode cX6_init 4 = .ok (.aload_n 0, 1) := by decide +kernel
theorem dX6_init_5 : decode cX6_init 5 = .ok (.bipush 32, 2) := by decide +kernel
theorem dX6_init_7 : decode cX6_init 7 = .ok (.newarray .int, 2) := by decide +kernel
theorem dX6_init_9 : decode cX6_init 9 = .ok (.putfield 11, 3) := by decide +kernel
theorem dX6_init_12 : decode cX6_init 12 = .ok (.aload_n 0, 1) := by decide +kernel
theorem dX6_init_13 : decode cX6_init 13 = .ok (.bipush 32, 2) := by decide +kernel
theorem dX6_init_15 : decode cX6_init 15 = .ok (.newarray .int, 2) := by decide +kernel
theorem dX6_init_17 : decode cX6_init 17 = .ok (.putfield 15, 3) := by decide +kernel
theorem dX6_init_20 : decode cX6_init 20 = .ok (.aload_n 0, 1) := by decide +kernel
theorem dX6_init_21 : decode cX6_init 21 = .ok (.bipush 32, 2) := by decide +kernel
theorem dX6_init_23 : decode cX6_init 23 = .ok (.newarray .int, 2) := by decide +kernel
theorem dX6_init_25 : decode cX6_init 25 = .ok (.putfield 18, 3) := by decide +kernel
theorem dX6_init_28 : decode cX6_init 28 = .ok (.aload_n 0, 1) := by decide +kernel
theorem dX6_init_29 : decode cX6_init 29 = .ok (.bipush 32, 2) := by decide +kernel
theorem dX6_init_31 : decode cX6_init 31 = .ok (.newarray .int, 2) := by decide +kernel
theorem dX6_init_33 : decode cX6_init 33 = .ok (.putfield 21, 3) := by decide +kernel
theorem dX6_init_36 : decode cX6_init 36 = .ok (.aload_n 0, 1) := by decide +kernel
theorem dX6_init_37 : decode cX6_init 37 = .ok (.bipush 32, 2) := by decide +kernel
theorem dX6_init_39 : decode cX6_init 39 = .ok (.newarray .int, 2) := by decide +kernel
theorem dX6_init_41 : decode cX6_init 41 = .ok (.putfield 24, 3) := by decide +kernel
theorem dX6_init_44 : decode cX6_init 44 = .ok (.aload_n 0, 1) := by decide +kernel
theorem dX6_init_45 : decode cX6_init 45 = .ok (.bipush 32, 2) := by decide +kernel
theorem dX6_init_47 : decode cX6_init 47 = .ok (.newarray .boolean, 2) := by decide +kernel
theorem dX6_init_49 : decode cX6_init 49 = .ok (.putfield 27, 3) := by decide +kernel
theorem dX6_init_52 : decode cX6_init 52 = .ok (.aload_n 0, 1) := by decide +kernel
theorem dX6_init_53 : decode cX6_init 53 = .ok (.iconst 0, 1) := by decide +kernel
theorem dX6_init_54 : decode cX6_init 54 = .ok (.putfield 31, 3) := by decide +kernel
theorem dX6_init_57 : decode cX6_init 57 = .ok (.aload_n 0, 1) := by decide +kernel
theorem dX6_init_58 : decode cX6_init 58 = .ok (.iconst 0, 1) := by decide +kernel
theorem dX6_init_59 : decode cX6_init 59 = .ok (.putfield 35, 3) := by decide +kernel
theorem dX6_init_62 : decode cX6_init 62 = .ok (.aload_n 0, 1) := by decide +kernel
theorem dX6_init_63 : decode cX6_init 63 = .ok (.bipush 49, 2) := by decide +kernel
theorem dX6_init_65 : decode cX6_init 65 = .ok (.newarray .int, 2) := by decide +kernel
theorem dX6_init_67 : decode cX6_init 67 = .ok (.putfield 38, 3) := by decide +kernel
theorem dX6_init_70 : decode cX6_init 70 = .ok (.aload_n 0, 1) := by decide +kernel
theorem dX6_init_71 : decode cX6_init 71 = .ok (.bipush 49, 2) := by decide +kernel
theorem dX6_init_73 : decode cX6_init 73 = .ok (.newarray .int, 2) := by decide +kernel
theorem dX6_init_75 : decode cX6_init 75 = .ok (.putfield 41, 3) := by decide +kernel
theorem dX6_init_78 : decode cX6_init 78 = .ok (.aload_n 0, 1) := by decide +kernel
theorem dX6_init_79 : decode cX6_init 79 = .ok (.lconst 0, 1) := by decide +kernel
theorem dX6_init_80 : decode cX6_init 80 = .ok (.putfield 44, 3) := by decide +kernel
theorem dX6_init_83 : decode cX6_init 83 = .ok (.aload_n 0, 1) := by decide +kernel
theorem dX6_init_84 : decode cX6_init 84 = .ok (.iconst (-1), 1) := by decide +kernel
theorem dX6_init_85 : decode cX6_init 85 = .ok (.putfield 48, 3) := by decide +kernel
theorem dX6_init_88 : decode cX6_init 88 = .ok (.iconst 0, 1) := by decide +kernel
theorem dX6_init_89 : decode cX6_init 89 = .ok (.istore_n 1, 1) := by decide +kernel
theorem dX6_init_90 : decode cX6_init 90 = .ok (.iload_n 1, 1) := by decide +kernel
theorem dX6_init_91 : decode cX6_init 91 = .ok (.bipush 12, 2) := by decide +kernel
theorem dX6_init_93 : decode cX6_init 93 = .ok (.if_icmp .ge 34, 3) := by decide +kernel
theorem dX6_init_96 : decode cX6_init 96 = .ok (.aload_n 0, 1) := by decide +kernel
theorem dX6_init_97 : decode cX6_init 97 = .ok (.getstatic 51, 3) := by decide +kernel
theorem dX6_init_100 : decode cX6_init 100 = .ok (.iload_n 1, 1) := by decide +kernel
theorem dX6_init_101 : decode cX6_init 101 = .ok (.iaload, 1) := by decide +kernel
theorem dX6_init_102 : decode cX6_init 102 = .ok (.getstatic 54, 3) := by decide +kernel
theorem dX6_init_105 : decode cX6_init 105 = .ok (.iload_n 1, 1) := by decide +kernel
theorem dX6_init_106 : decode cX6_init 106 = .ok (.iaload, 1) := by decide +kernel
theorem dX6_init_107 : decode cX6_init 107 = .ok (.getstatic 57, 3) := by decide +kernel
theorem dX6_init_110 : decode cX6_init 110 = .ok (.iload_n 1, 1) := by decide +kernel
theorem dX6_init_111 : decode cX6_init 111 = .ok (.iaload, 1) := by decide +kernel
theorem dX6_init_112 : decode cX6_init 112 = .ok (.getstatic 60, 3) := by decide +kernel
theorem dX6_init_115 : decode cX6_init 115 = .ok (.iload_n 1, 1) := by decide +kernel
theorem dX6_init_116 : decode cX6_init 116 = .ok (.iaload, 1) := by decide +kernel
theorem dX6_init_117 : decode cX6_init 117 = .ok (.iconst 0, 1) := by decide +kernel
theorem dX6_init_118 : decode cX6_init 118 = .ok (.invokevirtual 63, 3) := by decide +kernel
theorem dX6_init_121 : decode cX6_init 121 = .ok (.iinc 1 1, 3) := by decide +kernel
theorem dX6_init_124 : decode cX6_init 124 = .ok (.goto (-34), 3) := by decide +kernel
theorem dX6_init_127 : decode cX6_init 127 = .ok (.aload_n 0, 1) := by decide +kernel
theorem dX6_init_128 : decode cX6_init 128 = .ok (.invokevirtual 67, 3) := by decide +kernel
theorem dX6_init_131 : decode cX6_init 131 = .ok (.return_, 1) := by decide +kernel
theorem dX6_hasRoom_0 : decode cX6_hasRoom 0 = .ok (.aload_n 0, 1) := by decide +kernel
theorem dX6_hasRoom_1 : decode cX6_hasRoom 1 = .ok (.getfield 31, 3) := by decide +kernel
theorem dX6_hasRoom_4 : decode cX6_hasRoom 4 = .ok (.bipush 32, 2) := by decide +kernel
theorem dX6_hasRoom_6 : decode cX6_hasRoom 6 = .ok (.if_icmp .ge 7, 3) := by decide +kernel
theorem dX6_hasRoom_9 : decode cX6_hasRoom 9 = .ok (.iconst 1, 1) := by decide +kernel
theorem dX6_hasRoom_10 : decode cX6_hasRoom 10 = .ok (.goto 4, 3) := by decide +kernel
theorem dX6_hasRoom_13 : decode cX6_hasRoom 13 = .ok (.iconst 0, 1) := by decide +kernel
theorem dX6_hasRoom_14 : decode cX6_hasRoom 14 = .ok (.ireturn, 1) := by decide +kernel
theorem dX6_tell_0 : decode cX6_tell 0 = .ok (.aload_n 0, 1) := by decide +kernel
theorem dX6_tell_1 : decode cX6_tell 1 = .ok (.iload_n 1, 1) := by decide +kernel
theorem dX6_tell_2 : decode cX6_tell 2 = .ok (.iload_n 2, 1) := by decide +kernel
theorem dX6_tell_3 : decode cX6_tell 3 = .ok (.iload_n 3, 1) := by decide +kernel
theorem dX6_tell_4 : decode cX6_tell 4 = .ok (.iload 4, 2) := by decide +kernel
theorem dX6_tell_6 : decode cX6_tell 6 = .ok (.iload 5, 2) := by decide +kernel
theorem dX6_tell_8 : decode cX6_tell 8 = .ok (.invokevirtual 63, 3) := by decide +kernel
theorem dX6_tell_11 : decode cX6_tell 11 = .ok (.aload_n 0, 1) := by decide +kernel
theorem dX6_tell_12 : decode cX6_tell 12 = .ok (.invokevirtual 67, 3) := by decide +kernel
theorem dX6_tell_15 : decode cX6_tell 15 = .ok (.aload_n 0, 1) := by decide +kernel
theorem dX6_tell_16 : decode cX6_tell 16 = .ok (.getfield 31, 3) := by decide +kernel
theorem dX6_tell_19 : decode cX6_tell 19 = .ok (.iconst 1, 1) := by decide +kernel
theorem dX6_tell_20 : decode cX6_tell 20 = .ok (.isub, 1) := by decide +kernel
theorem dX6_tell_21 : decode cX6_tell 21 = .ok (.ireturn, 1) := by decide +kernel
theorem dX6_canForget_0 : decode cX6_canForget 0 = .ok (.iload_n 1, 1) := by decide +kernel
theorem dX6_canForget_1 : decode cX6_canForget 1 = .ok (.bipush 12, 2) := by decide +kernel
theorem dX6_canForget_3 : decode cX6_canForget 3 = .ok (.aload_n 0, 1) := by decide +kernel
theorem dX6_canForget_4 : decode cX6_canForget 4 = .ok (.getfield 31, 3) := by decide +kernel
theorem dX6_canForget_7 : decode cX6_canForget 7 = .ok (.iconst 1, 1) := by decide +kernel
theorem dX6_canForget_8 : decode cX6_canForget 8 = .ok (.isub, 1) := by decide +kernel
theorem dX6_canForget_9 : decode cX6_canForget 9 = .ok (.invokestatic 70, 3) := by decide +kernel
theorem dX6_canForget_12 : decode cX6_canForget 12 = .ok (.ifCond .eq 16, 3) := by decide +kernel
theorem dX6_canForget_15 : decode cX6_canForget 15 = .ok (.aload_n 0, 1) := by decide +kernel
theorem dX6_canForget_16 : decode cX6_canForget 16 = .ok (.getfield 27, 3) := by decide +kernel
theorem dX6_canForget_19 : decode cX6_canForget 19 = .ok (.iload_n 1, 1) := by decide +kernel
theorem dX6_canForget_20 : decode cX6_canForget 20 = .ok (.baload, 1) := by decide +kernel
theorem dX6_canForget_21 : decode cX6_canForget 21 = .ok (.ifCond .eq 7, 3) := by decide +kernel
theorem dX6_canForget_24 : decode cX6_canForget 24 = .ok (.iconst 1, 1) := by decide +kernel
theorem dX6_canForget_25 : decode cX6_canForget 25 = .ok (.goto 4, 3) := by decide +kernel
theorem dX6_canForget_28 : decode cX6_canForget 28 = .ok (.iconst 0, 1) := by decide +kernel
theorem dX6_canForget_29 : decode cX6_canForget 29 = .ok (.ireturn, 1) := by decide +kernel
theorem dX6_forget_0 : decode cX6_forget 0 = .ok (.aload_n 0, 1) := by decide +kernel
theorem dX6_forget_1 : decode cX6_forget 1 = .ok (.getfield 27, 3) := by decide +kernel
theorem dX6_forget_4 : decode cX6_forget 4 = .ok (.iload_n 1, 1) := by decide +kernel
theorem dX6_forget_5 : decode cX6_forget 5 = .ok (.iconst 0, 1) := by decide +kernel
theorem dX6_forget_6 : decode cX6_forget 6 = .ok (.bastore, 1) := by decide +kernel
theorem dX6_forget_7 : decode cX6_forget 7 = .ok (.aload_n 0, 1) := by decide +kernel
theorem dX6_forget_8 : decode cX6_forget 8 = .ok (.dup, 1) := by decide +kernel
theorem dX6_forget_9 : decode cX6_forget 9 = .ok (.getfield 35, 3) := by decide +kernel
theorem dX6_forget_12 : decode cX6_forget 12 = .ok (.iconst 1, 1) := by decide +kernel
