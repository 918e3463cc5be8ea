theorem dX11_work_95 : decode cX11_work 95 = .ok (.getfield 44, 3) := by decide +kernel
theorem dX11_work_98 : decode cX11_work 98 = .ok (.iload 6, 2) := by decide +kernel
theorem dX11_work_100 : decode cX11_work 100 = .ok (.iload_n 3, 1) := by decide +kernel
theorem dX11_work_101 : decode cX11_work 101 = .ok (.iastore, 1) := by decide +kernel
theorem dX11_work_102 : decode cX11_work 102 = .ok (.aload_n 0, 1) := by decide +kernel
theorem dX11_work_103 : decode cX11_work 103 = .ok (.getfield 47, 3) := by decide +kernel
theorem dX11_work_106 : decode cX11_work 106 = .ok (.iload 6, 2) := by decide +kernel
theorem dX11_work_108 : decode cX11_work 108 = .ok (.iload 4, 2) := by decide +kernel
theorem dX11_work_110 : decode cX11_work 110 = .ok (.iastore, 1) := by decide +kernel
theorem dX11_work_111 : decode cX11_work 111 = .ok (.aload_n 0, 1) := by decide +kernel
theorem dX11_work_112 : decode cX11_work 112 = .ok (.getfield 50, 3) := by decide +kernel
theorem dX11_work_115 : decode cX11_work 115 = .ok (.iload 6, 2) := by decide +kernel
theorem dX11_work_117 : decode cX11_work 117 = .ok (.iload_n 3, 1) := by decide +kernel
theorem dX11_work_118 : decode cX11_work 118 = .ok (.ifCond .ne 8, 3) := by decide +kernel
theorem dX11_work_121 : decode cX11_work 121 = .ok (.iload 5, 2) := by decide +kernel
theorem dX11_work_123 : decode cX11_work 123 = .ok (.goto 4, 3) := by decide +kernel
theorem dX11_work_126 : decode cX11_work 126 = .ok (.iconst 0, 1) := by decide +kernel
theorem dX11_work_127 : decode cX11_work 127 = .ok (.iastore, 1) := by decide +kernel
theorem dX11_work_128 : decode cX11_work 128 = .ok (.iconst 0, 1) := by decide +kernel
theorem dX11_work_129 : decode cX11_work 129 = .ok (.ireturn, 1) := by decide +kernel
theorem dX11_times_0 : decode cX11_times 0 = .ok (.aload_n 0, 1) := by decide +kernel
theorem dX11_times_1 : decode cX11_times 1 = .ok (.iconst 0, 1) := by decide +kernel
theorem dX11_times_2 : decode cX11_times 2 = .ok (.putfield 131, 3) := by decide +kernel
theorem dX11_times_5 : decode cX11_times 5 = .ok (.iload_n 1, 1) := by decide +kernel
theorem dX11_times_6 : decode cX11_times 6 = .ok (.i2l, 1) := by decide +kernel
theorem dX11_times_7 : decode cX11_times 7 = .ok (.lconst 0, 1) := by decide +kernel
theorem dX11_times_8 : decode cX11_times 8 = .ok (.ldc2_w 221, 3) := by decide +kernel
theorem dX11_times_11 : decode cX11_times 11 = .ok (.invokestatic 138, 3) := by decide +kernel
theorem dX11_times_14 : decode cX11_times 14 = .ok (.ifCond .ne 6, 3) := by decide +kernel
theorem dX11_times_17 : decode cX11_times 17 = .ok (.bipush (-3), 2) := by decide +kernel
theorem dX11_times_19 : decode cX11_times 19 = .ok (.ireturn, 1) := by decide +kernel
theorem dX11_times_20 : decode cX11_times 20 = .ok (.aload_n 0, 1) := by decide +kernel
theorem dX11_times_21 : decode cX11_times 21 = .ok (.iload_n 1, 1) := by decide +kernel
theorem dX11_times_22 : decode cX11_times 22 = .ok (.iload_n 2, 1) := by decide +kernel
theorem dX11_times_23 : decode cX11_times 23 = .ok (.invokevirtual 235, 3) := by decide +kernel
theorem dX11_times_26 : decode cX11_times 26 = .ok (.ifCond .ne 6, 3) := by decide +kernel
theorem dX11_times_29 : decode cX11_times 29 = .ok (.bipush (-2), 2) := by decide +kernel
theorem dX11_times_31 : decode cX11_times 31 = .ok (.ireturn, 1) := by decide +kernel
theorem dX11_times_32 : decode cX11_times 32 = .ok (.bipush 6, 2) := by decide +kernel
theorem dX11_times_34 : decode cX11_times 34 = .ok (.iload_n 1, 1) := by decide +kernel
theorem dX11_times_35 : decode cX11_times 35 = .ok (.imul, 1) := by decide +kernel
theorem dX11_times_36 : decode cX11_times 36 = .ok (.iload_n 2, 1) := by decide +kernel
theorem dX11_times_37 : decode cX11_times 37 = .ok (.iadd, 1) := by decide +kernel
theorem dX11_times_38 : decode cX11_times 38 = .ok (.istore 5, 2) := by decide +kernel
theorem dX11_times_40 : decode cX11_times 40 = .ok (.iload_n 3, 1) := by decide +kernel
theorem dX11_times_41 : decode cX11_times 41 = .ok (.i2l, 1) := by decide +kernel
theorem dX11_times_42 : decode cX11_times 42 = .ok (.lconst 0, 1) := by decide +kernel
theorem dX11_times_43 : decode cX11_times 43 = .ok (.aload_n 0, 1) := by decide +kernel
theorem dX11_times_44 : decode cX11_times 44 = .ok (.getfield 35, 3) := by decide +kernel
theorem dX11_times_47 : decode cX11_times 47 = .ok (.iload 5, 2) := by decide +kernel
theorem dX11_times_49 : decode cX11_times 49 = .ok (.iaload, 1) := by decide +kernel
theorem dX11_times_50 : decode cX11_times 50 = .ok (.iconst 1, 1) := by decide +kernel
theorem dX11_times_51 : decode cX11_times 51 = .ok (.isub, 1) := by decide +kernel
theorem dX11_times_52 : decode cX11_times 52 = .ok (.i2l, 1) := by decide +kernel
theorem dX11_times_53 : decode cX11_times 53 = .ok (.invokestatic 138, 3) := by decide +kernel
theorem dX11_times_56 : decode cX11_times 56 = .ok (.ifCond .eq 18, 3) := by decide +kernel
theorem dX11_times_59 : decode cX11_times 59 = .ok (.iload 4, 2) := by decide +kernel
theorem dX11_times_61 : decode cX11_times 61 = .ok (.i2l, 1) := by decide +kernel
theorem dX11_times_62 : decode cX11_times 62 = .ok (.ldc2_w 231, 3) := by decide +kernel
theorem dX11_times_65 : decode cX11_times 65 = .ok (.ldc2_w 233, 3) := by decide +kernel
theorem dX11_times_68 : decode cX11_times 68 = .ok (.invokestatic 138, 3) := by decide +kernel
theorem dX11_times_71 : decode cX11_times 71 = .ok (.ifCond .ne 6, 3) := by decide +kernel
theorem dX11_times_74 : decode cX11_times 74 = .ok (.bipush (-3), 2) := by decide +kernel
theorem dX11_times_76 : decode cX11_times 76 = .ok (.ireturn, 1) := by decide +kernel
theorem dX11_times_77 : decode cX11_times 77 = .ok (.aload_n 0, 1) := by decide +kernel
theorem dX11_times_78 : decode cX11_times 78 = .ok (.getfield 53, 3) := by decide +kernel
theorem dX11_times_81 : decode cX11_times 81 = .ok (.iconst 4, 1) := by decide +kernel
theorem dX11_times_82 : decode cX11_times 82 = .ok (.iload 5, 2) := by decide +kernel
theorem dX11_times_84 : decode cX11_times 84 = .ok (.imul, 1) := by decide +kernel
theorem dX11_times_85 : decode cX11_times 85 = .ok (.iload_n 3, 1) := by decide +kernel
theorem dX11_times_86 : decode cX11_times 86 = .ok (.iadd, 1) := by decide +kernel
theorem dX11_times_87 : decode cX11_times 87 = .ok (.iaload, 1) := by decide +kernel
theorem dX11_times_88 : decode cX11_times 88 = .ok (.istore 6, 2) := by decide +kernel
theorem dX11_times_90 : decode cX11_times 90 = .ok (.aload_n 0, 1) := by decide +kernel
theorem dX11_times_91 : decode cX11_times 91 = .ok (.getfield 53, 3) := by decide +kernel
theorem dX11_times_94 : decode cX11_times 94 = .ok (.iconst 4, 1) := by decide +kernel
theorem dX11_times_95 : decode cX11_times 95 = .ok (.iload 5, 2) := by decide +kernel
theorem dX11_times_97 : decode cX11_times 97 = .ok (.imul, 1) := by decide +kernel
theorem dX11_times_98 : decode cX11_times 98 = .ok (.iload_n 3, 1) := by decide +kernel
theorem dX11_times_99 : decode cX11_times 99 = .ok (.iadd, 1) := by decide +kernel
theorem dX11_times_100 : decode cX11_times 100 = .ok (.iload 4, 2) := by decide +kernel
theorem dX11_times_102 : decode cX11_times 102 = .ok (.iastore, 1) := by decide +kernel
theorem dX11_times_103 : decode cX11_times 103 = .ok (.iload 6, 2) := by decide +kernel
theorem dX11_times_105 : decode cX11_times 105 = .ok (.ireturn, 1) := by decide +kernel
theorem dX11_strip_0 : decode cX11_strip 0 = .ok (.aload_n 0, 1) := by decide +kernel
theorem dX11_strip_1 : decode cX11_strip 1 = .ok (.iconst 0, 1) := by decide +kernel
theorem dX11_strip_2 : decode cX11_strip 2 = .ok (.putfield 131, 3) := by decide +kernel
theorem dX11_strip_5 : decode cX11_strip 5 = .ok (.iload_n 2, 1) := by decide +kernel
theorem dX11_strip_6 : decode cX11_strip 6 = .ok (.i2l, 1) := by decide +kernel
theorem dX11_strip_7 : decode cX11_strip 7 = .ok (.lconst 0, 1) := by decide +kernel
theorem dX11_strip_8 : decode cX11_strip 8 = .ok (.ldc2_w 221, 3) := by decide +kernel
theorem dX11_strip_11 : decode cX11_strip 11 = .ok (.invokestatic 138, 3) := by decide +kernel
theorem dX11_strip_14 : decode cX11_strip 14 = .ok (.ifCond .ne 6, 3) := by decide +kernel
theorem dX11_strip_17 : decode cX11_strip 17 = .ok (.bipush (-3), 2) := by decide +kernel
theorem dX11_strip_19 : decode cX11_strip 19 = .ok (.ireturn, 1) := by decide +kernel
theorem dX11_strip_20 : decode cX11_strip 20 = .ok (.iload_n 1, 1) := by decide +kernel
theorem dX11_strip_21 : decode cX11_strip 21 = .ok (.ifCond .eq 10, 3) := by decide +kernel
theorem dX11_strip_24 : decode cX11_strip 24 = .ok (.bipush 10, 2) := by decide +kernel
theorem dX11_strip_26 : decode cX11_strip 26 = .ok (.iload_n 2, 1) := by decide +kernel
theorem dX11_strip_27 : decode cX11_strip 27 = .ok (.iadd, 1) := by decide +kernel
theorem dX11_strip_28 : decode cX11_strip 28 = .ok (.goto 4, 3) := by decide +kernel
theorem dX11_strip_31 : decode cX11_strip 31 = .ok (.iload_n 2, 1) := by decide +kernel
theorem dX11_strip_32 : decode cX11_strip 32 = .ok (.istore_n 3, 1) := by decide +kernel
theorem dX11_strip_33 : decode cX11_strip 33 = .ok (.aload_n 0, 1) := by decide +kernel
theorem dX11_strip_34 : decode cX11_strip 34 = .ok (.getfield 29, 3) := by decide +kernel
theorem dX11_strip_37 : decode cX11_strip 37 = .ok (.iload_n 3, 1) := by decide +kernel
theorem dX11_strip_38 : decode cX11_strip 38 = .ok (.iaload, 1) := by decide +kernel
theorem dX11_strip_39 : decode cX11_strip 39 = .ok (.istore 4, 2) := by decide +kernel
theorem dX11_strip_41 : decode cX11_strip 41 = .ok (.aload_n 0, 1) := by decide +kernel
theorem dX11_strip_42 : decode cX11_strip 42 = .ok (.getfield 29, 3) := by decide +kernel
theorem dX11_strip_45 : decode cX11_strip 45 = .ok (.iload_n 3, 1) := by decide +kernel
theorem dX11_strip_46 : decode cX11_strip 46 = .ok (.iconst 0, 1) := by decide +kernel
theorem dX11_strip_47 : decode cX11_strip 47 = .ok (.iastore, 1) := by decide +kernel
theorem dX11_strip_48 : decode cX11_strip 48 = .ok (.iload 4, 2) := by decide +kernel
theorem dX11_strip_50 : decode cX11_strip 50 = .ok (.ireturn, 1) := by decide +kernel
theorem dX11_alias_0 : decode cX11_alias 0 = .ok (.aload_n 0, 1) := by decide +kernel
theorem dX11_alias_1 : decode cX11_alias 1 = .ok (.iconst 0, 1) := by decide +kernel
theorem dX11_alias_2 : decode cX11_alias 2 = .ok (.putfield 131, 3) := by decide +kernel
theorem dX11_alias_5 : decode cX11_alias 5 = .ok (.iload_n 1, 1) := by decide +kernel
theorem dX11_alias_6 : decode cX11_alias 6 = .ok (.i2l, 1) := by decide +kernel
theorem dX11_alias_7 : decode cX11_alias 7 = .ok (.lconst 0, 1) := by decide +kernel
theorem dX11_alias_8 : decode cX11_alias 8 = .ok (.ldc2_w 219, 3) := by decide +kernel
theorem dX11_alias_11 : decode cX11_alias 11 = .ok (.invokestatic 138, 3) := by decide +kernel
theorem dX11_alias_14 : decode cX11_alias 14 = .ok (.ifCond .eq 20, 3) := by decide +kernel
theorem dX11_alias_17 : decode cX11_alias 17 = .ok (.iload_n 2, 1) := by decide +kernel
theorem dX11_alias_18 : decode cX11_alias 18 = .ok (.i2l, 1) := by decide +kernel
theorem dX11_alias_19 : decode cX11_alias 19 = .ok (.lconst 0, 1) := by decide +kernel
theorem dX11_alias_20 : decode cX11_alias 20 = .ok (.ldc2_w 219, 3) := by decide +kernel
theorem dX11_alias_23 : decode cX11_alias 23 = .ok (.invokestatic 138, 3) := by decide +kernel
theorem dX11_alias_26 : decode cX11_alias 26 = .ok (.ifCond .eq 8, 3) := by decide +kernel
theorem dX11_alias_29 : decode cX11_alias 29 = .ok (.iload_n 1, 1) := by decide +kernel
theorem dX11_alias_30 : decode cX11_alias 30 = .ok (.iload_n 2, 1) := by decide +kernel
theorem dX11_alias_31 : decode cX11_alias 31 = .ok (.if_icmp .ne 5, 3) := by decide +kernel
theorem dX11_alias_34 : decode cX11_alias 34 = .ok (.iconst 0, 1) := by decide +kernel
theorem dX11_alias_35 : decode cX11_alias 35 = .ok (.ireturn, 1) := by decide +kernel
theorem dX11_alias_36 : decode cX11_alias 36 = .ok (.bipush 100, 2) := by decide +kernel
theorem dX11_alias_38 : decode cX11_alias 38 = .ok (.iload_n 1, 1) := by decide +kernel
theorem dX11_alias_39 : decode cX11_alias 39 = .ok (.imul, 1) := by decide +kernel
theorem dX11_alias_40 : decode cX11_alias 40 = .ok (.iload_n 2, 1) := by decide +kernel
theorem dX11_alias_41 : decode cX11_alias 41 = .ok (.iadd, 1) := by decide +kernel
theorem dX11_alias_42 : decode cX11_alias 42 = .ok (.istore 4, 2) := by decide +kernel
theorem dX11_alias_44 : decode cX11_alias 44 = .ok (.aload_n 0, 1) := by decide +kernel
theorem dX11_alias_45 : decode cX11_alias 45 = .ok (.getfield 56, 3) := by decide +kernel
theorem dX11_alias_48 : decode cX11_alias 48 = .ok (.iload 4, 2) := by decide +kernel
theorem dX11_alias_50 : decode cX11_alias 50 = .ok (.baload, 1) := by decide +kernel
theorem dX11_alias_51 : decode cX11_alias 51 = .ok (.iload_n 3, 1) := by decide +kernel
theorem dX11_alias_52 : decode cX11_alias 52 = .ok (.if_icmp .eq 16, 3) := by decide +kernel
theorem dX11_alias_55 : decode cX11_alias 55 = .ok (.iload_n 3, 1) := by decide +kernel
theorem dX11_alias_56 : decode cX11_alias 56 = .ok (.ifCond .eq 14, 3) := by decide +kernel
theorem dX11_alias_59 : decode cX11_alias 59 = .ok (.aload_n 0, 1) := by decide +kernel
theorem dX11_alias_60 : decode cX11_alias 60 = .ok (.getfield 239, 3) := by decide +kernel
theorem dX11_alias_63 : decode cX11_alias 63 = .ok (.bipush 30, 2) := by decide +kernel
theorem dX11_alias_65 : decode cX11_alias 65 = .ok (.if_icmp .ne 5, 3) := by decide +kernel
theorem dX11_alias_68 : decode cX11_alias 68 = .ok (.iconst 0, 1) := by decide +kernel
theorem dX11_alias_69 : decode cX11_alias 69 = .ok (.ireturn, 1) := by decide +kernel
theorem dX11_alias_70 : decode cX11_alias 70 = .ok (.aload_n 0, 1) := by decide +kernel
theorem dX11_alias_71 : decode cX11_alias 71 = .ok (.getfield 56, 3) := by decide +kernel
theorem dX11_alias_74 : decode cX11_alias 74 = .ok (.iload 4, 2) := by decide +kernel
theorem dX11_alias_76 : decode cX11_alias 76 = .ok (.iload_n 3, 1) := by decide +kernel
theorem dX11_alias_77 : decode cX11_alias 77 = .ok (.bastore, 1) := by decide +kernel
theorem dX11_alias_78 : decode cX11_alias 78 = .ok (.aload_n 0, 1) := by decide +kernel
theorem dX11_alias_79 : decode cX11_alias 79 = .ok (.dup, 1) := by decide +kernel
theorem dX11_alias_80 : decode cX11_alias 80 = .ok (.getfield 239, 3) := by decide +kernel
theorem dX11_alias_83 : decode cX11_alias 83 = .ok (.iload_n 3, 1) := by decide +kernel
theorem dX11_alias_84 : decode cX11_alias 84 = .ok (.ifCond .eq 7, 3) := by decide +kernel
theorem dX11_alias_87 : decode cX11_alias 87 = .ok (.iconst 1, 1) := by decide +kernel
theorem dX11_alias_88 : decode cX11_alias 88 = .ok (.goto 4, 3) := by decide +kernel
theorem dX11_alias_91 : decode cX11_alias 91 = .ok (.iconst (-1), 1) := by decide +kernel
theorem dX11_alias_92 : decode cX11_alias 92 = .ok (.iadd, 1) := by decide +kernel
theorem dX11_alias_93 : decode cX11_alias 93 = .ok (.putfield 239, 3) := by decide +kernel
theorem dX11_alias_96 : decode cX11_alias 96 = .ok (.iconst 1, 1) := by decide +kernel
theorem dX11_alias_97 : decode cX11_alias 97 = .ok (.ireturn, 1) := by decide +kernel
theorem dX11_constant_0 : decode cX11_constant 0 = .ok (.aload_n 0, 1) := by decide +kernel
theorem dX11_constant_1 : decode cX11_constant 1 = .ok (.iconst 0, 1) := by decide +kernel
theorem dX11_constant_2 : decode cX11_constant 2 = .ok (.putfield 131, 3) := by decide +kernel
theorem dX11_constant_5 : decode cX11_constant 5 = .ok (.iload_n 1, 1) := by decide +kernel
theorem dX11_constant_6 : decode cX11_constant 6 = .ok (.i2l, 1) := by decide +kernel
theorem dX11_constant_7 : decode cX11_constant 7 = .ok (.lconst 0, 1) := by decide +kernel
theorem dX11_constant_8 : decode cX11_constant 8 = .ok (.ldc2_w 150, 3) := by decide +kernel
theorem dX11_constant_11 : decode cX11_constant 11 = .ok (.invokestatic 138, 3) := by decide +kernel
theorem dX11_constant_14 : decode cX11_constant 14 = .ok (.ifCond .eq 15, 3) := by decide +kernel
theorem dX11_constant_17 : decode cX11_constant 17 = .ok (.iload_n 2, 1) := by decide +kernel
theorem dX11_constant_18 : decode cX11_constant 18 = .ok (.ifCond .eq 14, 3) := by decide +kernel
theorem dX11_constant_21 : decode cX11_constant 21 = .ok (.iload_n 1, 1) := by decide +kernel
theorem dX11_constant_22 : decode cX11_constant 22 = .ok (.lload_n 3, 1) := by decide +kernel
theorem dX11_constant_23 : decode cX11_constant 23 = .ok (.invokestatic 176, 3) := by decide +kernel
theorem dX11_constant_26 : decode cX11_constant 26 = .ok (.ifCond .ne 6, 3) := by decide +kernel
theorem dX11_constant_29 : decode cX11_constant 29 = .ok (.bipush (-3), 2) := by decide +kernel
theorem dX11_constant_31 : decode cX11_constant 31 = .ok (.ireturn, 1) := by decide +kernel
theorem dX11_constant_32 : decode cX11_constant 32 = .ok (.aload_n 0, 1) := by decide +kernel
theorem dX11_constant_33 : decode cX11_constant 33 = .ok (.getfield 59, 3) := by decide +kernel
theorem dX11_constant_36 : decode cX11_constant 36 = .ok (.iload_n 1, 1) := by decide +kernel
theorem dX11_constant_37 : decode cX11_constant 37 = .ok (.baload, 1) := by decide +kernel
theorem dX11_constant_38 : decode cX11_constant 38 = .ok (.ifCond .eq 7, 3) := by decide +kernel
theorem dX11_constant_41 : decode cX11_constant 41 = .ok (.iconst 1, 1) := by decide +kernel
theorem dX11_constant_42 : decode cX11_constant 42 = .ok (.goto 4, 3) := by decide +kernel
theorem dX11_constant_45 : decode cX11_constant 45 = .ok (.iconst 0, 1) := by decide +kernel
theorem dX11_constant_46 : decode cX11_constant 46 = .ok (.istore 5, 2) := by decide +kernel
theorem dX11_constant_48 : decode cX11_constant 48 = .ok (.aload_n 0, 1) := by decide +kernel
theorem dX11_constant_49 : decode cX11_constant 49 = .ok (.getfield 59, 3) := by decide +kernel
theorem dX11_constant_52 : decode cX11_constant 52 = .ok (.iload_n 1, 1) := by decide +kernel
theorem dX11_constant_53 : decode cX11_constant 53 = .ok (.iload_n 2, 1) := by decide +kernel
theorem dX11_constant_54 : decode cX11_constant 54 = .ok (.bastore, 1) := by decide +kernel
theorem dX11_constant_55 : decode cX11_constant 55 = .ok (.aload_n 0, 1) := by decide +kernel
theorem dX11_constant_56 : decode cX11_constant 56 = .ok (.getfield 62, 3) := by decide +kernel
theorem dX11_constant_59 : decode cX11_constant 59 = .ok (.iload_n 1, 1) := by decide +kernel
theorem dX11_constant_60 : decode cX11_constant 60 = .ok (.lload_n 3, 1) := by decide +kernel
theorem dX11_constant_61 : decode cX11_constant 61 = .ok (.lastore, 1) := by decide +kernel
theorem dX11_constant_62 : decode cX11_constant 62 = .ok (.iload 5, 2) := by decide +kernel
theorem dX11_constant_64 : decode cX11_constant 64 = .ok (.ireturn, 1) := by decide +kernel
theorem dX11_costOf_0 : decode cX11_costOf 0 = .ok (.aload_n 0, 1) := by decide +kernel
theorem dX11_costOf_1 : decode cX11_costOf 1 = .ok (.getfield 75, 3) := by decide +kernel
theorem dX11_costOf_4 : decode cX11_costOf 4 = .ok (.bipush 7, 2) := by decide +kernel
theorem dX11_costOf_6 : decode cX11_costOf 6 = .ok (.aload_n 0, 1) := by decide +kernel
theorem dX11_costOf_7 : decode cX11_costOf 7 = .ok (.getfield 41, 3) := by decide +kernel
theorem dX11_costOf_10 : decode cX11_costOf 10 = .ok (.iload_n 2, 1) := by decide +kernel
theorem dX11_costOf_11 : decode cX11_costOf 11 = .ok (.iaload, 1) := by decide +kernel
theorem dX11_costOf_12 : decode cX11_costOf 12 = .ok (.imul, 1) := by decide +kernel
theorem dX11_costOf_13 : decode cX11_costOf 13 = .ok (.aload_n 0, 1) := by decide +kernel
theorem dX11_costOf_14 : decode cX11_costOf 14 = .ok (.getfield 41, 3) := by decide +kernel
theorem dX11_costOf_17 : decode cX11_costOf 17 = .ok (.iload_n 1, 1) := by decide +kernel
theorem dX11_costOf_18 : decode cX11_costOf 18 = .ok (.iaload, 1) := by decide +kernel
theorem dX11_costOf_19 : decode cX11_costOf 19 = .ok (.iadd, 1) := by decide +kernel
theorem dX11_costOf_20 : decode cX11_costOf 20 = .ok (.iaload, 1) := by decide +kernel
theorem dX11_costOf_21 : decode cX11_costOf 21 = .ok (.istore_n 3, 1) := by decide +kernel
theorem dX11_costOf_22 : decode cX11_costOf 22 = .ok (.iconst 0, 1) := by decide +kernel
theorem dX11_costOf_23 : decode cX11_costOf 23 = .ok (.istore 4, 2) := by decide +kernel
theorem dX11_costOf_25 : decode cX11_costOf 25 = .ok (.iconst 0, 1) := by decide +kernel
theorem dX11_costOf_26 : decode cX11_costOf 26 = .ok (.istore 5, 2) := by decide +kernel
theorem dX11_costOf_28 : decode cX11_costOf 28 = .ok (.iload 5, 2) := by decide +kernel
theorem dX11_costOf_30 : decode cX11_costOf 30 = .ok (.aload_n 0, 1) := by decide +kernel
theorem dX11_costOf_31 : decode cX11_costOf 31 = .ok (.getfield 35, 3) := by decide +kernel
theorem dX11_costOf_34 : decode cX11_costOf 34 = .ok (.iload_n 2, 1) := by decide +kernel
theorem dX11_costOf_35 : decode cX11_costOf 35 = .ok (.iaload, 1) := by decide +kernel
theorem dX11_costOf_36 : decode cX11_costOf 36 = .ok (.if_icmp .ge 137, 3) := by decide +kernel
theorem dX11_costOf_39 : decode cX11_costOf 39 = .ok (.aload_n 0, 1) := by decide +kernel
theorem dX11_costOf_40 : decode cX11_costOf 40 = .ok (.getfield 90, 3) := by decide +kernel
theorem dX11_costOf_43 : decode cX11_costOf 43 = .ok (.iload 5, 2) := by decide +kernel
theorem dX11_costOf_45 : decode cX11_costOf 45 = .ok (.iaload, 1) := by decide +kernel
theorem dX11_costOf_46 : decode cX11_costOf 46 = .ok (.istore 6, 2) := by decide +kernel
theorem dX11_costOf_48 : decode cX11_costOf 48 = .ok (.aload_n 0, 1) := by decide +kernel
theorem dX11_costOf_49 : decode cX11_costOf 49 = .ok (.getfield 38, 3) := by decide +kernel
theorem dX11_costOf_52 : decode cX11_costOf 52 = .ok (.iconst 4, 1) := by decide +kernel
theorem dX11_costOf_53 : decode cX11_costOf 53 = .ok (.iload_n 2, 1) := by decide +kernel
theorem dX11_costOf_54 : decode cX11_costOf 54 = .ok (.imul, 1) := by decide +kernel
theorem dX11_costOf_55 : decode cX11_costOf 55 = .ok (.iload 5, 2) := by decide +kernel
theorem dX11_costOf_57 : decode cX11_costOf 57 = .ok (.iadd, 1) := by decide +kernel
theorem dX11_costOf_58 : decode cX11_costOf 58 = .ok (.iaload, 1) := by decide +kernel
theorem dX11_costOf_59 : decode cX11_costOf 59 = .ok (.istore 7, 2) := by decide +kernel
theorem dX11_costOf_61 : decode cX11_costOf 61 = .ok (.iload 6, 2) := by decide +kernel
theorem dX11_costOf_63 : decode cX11_costOf 63 = .ok (.iconst 4, 1) := by decide +kernel
theorem dX11_costOf_64 : decode cX11_costOf 64 = .ok (.if_icmp .ne 26, 3) := by decide +kernel
theorem dX11_costOf_67 : decode cX11_costOf 67 = .ok (.iload_n 3, 1) := by decide +kernel
theorem dX11_costOf_68 : decode cX11_costOf 68 = .ok (.aload_n 0, 1) := by decide +kernel
theorem dX11_costOf_69 : decode cX11_costOf 69 = .ok (.getfield 59, 3) := by decide +kernel
theorem dX11_costOf_72 : decode cX11_costOf 72 = .ok (.iload 7, 2) := by decide +kernel
theorem dX11_costOf_74 : decode cX11_costOf 74 = .ok (.baload, 1) := by decide +kernel
theorem dX11_costOf_75 : decode cX11_costOf 75 = .ok (.ifCond .eq 8, 3) := by decide +kernel
theorem dX11_costOf_78 : decode cX11_costOf 78 = .ok (.bipush 7, 2) := by decide +kernel
theorem dX11_costOf_80 : decode cX11_costOf 80 = .ok (.goto 5, 3) := by decide +kernel
theorem dX11_costOf_83 : decode cX11_costOf 83 = .ok (.ldc 180, 2) := by decide +kernel
theorem dX11_costOf_85 : decode cX11_costOf 85 = .ok (.iadd, 1) := by decide +kernel
theorem dX11_costOf_86 : decode cX11_costOf 86 = .ok (.istore_n 3, 1) := by decide +kernel
theorem dX11_costOf_87 : decode cX11_costOf 87 = .ok (.goto 80, 3) := by decide +kernel
theorem dX11_costOf_90 : decode cX11_costOf 90 = .ok (.iload 6, 2) := by decide +kernel
theorem dX11_costOf_92 : decode cX11_costOf 92 = .ok (.aload_n 0, 1) := by decide +kernel
theorem dX11_costOf_93 : decode cX11_costOf 93 = .ok (.getfield 35, 3) := by decide +kernel
theorem dX11_costOf_96 : decode cX11_costOf 96 = .ok (.iload_n 1, 1) := by decide +kernel
theorem dX11_costOf_97 : decode cX11_costOf 97 = .ok (.iaload, 1) := by decide +kernel
theorem dX11_costOf_98 : decode cX11_costOf 98 = .ok (.if_icmp .ge 14, 3) := by decide +kernel
theorem dX11_costOf_101 : decode cX11_costOf 101 = .ok (.iload 4, 2) := by decide +kernel
theorem dX11_costOf_103 : decode cX11_costOf 103 = .ok (.iload 6, 2) := by decide +kernel
theorem dX11_costOf_105 : decode cX11_costOf 105 = .ok (.ishr, 1) := by decide +kernel
theorem dX11_costOf_106 : decode cX11_costOf 106 = .ok (.iconst 1, 1) := by decide +kernel
theorem dX11_costOf_107 : decode cX11_costOf 107 = .ok (.iand, 1) := by decide +kernel
theorem dX11_costOf_108 : decode cX11_costOf 108 = .ok (.iconst 1, 1) := by decide +kernel
theorem dX11_costOf_109 : decode cX11_costOf 109 = .ok (.if_icmp .ne 11, 3) := by decide +kernel
theorem dX11_costOf_112 : decode cX11_costOf 112 = .ok (.iload_n 3, 1) := by decide +kernel
theorem dX11_costOf_113 : decode cX11_costOf 113 = .ok (.ldc 180, 2) := by decide +kernel
theorem dX11_costOf_115 : decode cX11_costOf 115 = .ok (.iadd, 1) := by decide +kernel
theorem dX11_costOf_116 : decode cX11_costOf 116 = .ok (.istore_n 3, 1) := by decide +kernel
theorem dX11_costOf_117 : decode cX11_costOf 117 = .ok (.goto 50, 3) := by decide +kernel
theorem dX11_costOf_120 : decode cX11_costOf 120 = .ok (.iload 4, 2) := by decide +kernel
theorem dX11_costOf_122 : decode cX11_costOf 122 = .ok (.iconst 1, 1) := by decide +kernel
theorem dX11_costOf_123 : decode cX11_costOf 123 = .ok (.iload 6, 2) := by decide +kernel
theorem dX11_costOf_125 : decode cX11_costOf 125 = .ok (.ishl, 1) := by decide +kernel
theorem dX11_costOf_126 : decode cX11_costOf 126 = .ok (.ior, 1) := by decide +kernel
theorem dX11_costOf_127 : decode cX11_costOf 127 = .ok (.istore 4, 2) := by decide +kernel
theorem dX11_costOf_129 : decode cX11_costOf 129 = .ok (.iload_n 3, 1) := by decide +kernel
theorem dX11_costOf_130 : decode cX11_costOf 130 = .ok (.aload_n 0, 1) := by decide +kernel
theorem dX11_costOf_131 : decode cX11_costOf 131 = .ok (.getfield 75, 3) := by decide +kernel
theorem dX11_costOf_134 : decode cX11_costOf 134 = .ok (.bipush 7, 2) := by decide +kernel
theorem dX11_costOf_136 : decode cX11_costOf 136 = .ok (.aload_n 0, 1) := by decide +kernel
theorem dX11_costOf_137 : decode cX11_costOf 137 = .ok (.getfield 38, 3) := by decide +kernel
theorem dX11_costOf_140 : decode cX11_costOf 140 = .ok (.iconst 4, 1) := by decide +kernel
theorem dX11_costOf_141 : decode cX11_costOf 141 = .ok (.iload_n 1, 1) := by decide +kernel
theorem dX11_costOf_142 : decode cX11_costOf 142 = .ok (.imul, 1) := by decide +kernel
theorem dX11_costOf_143 : decode cX11_costOf 143 = .ok (.iload 6, 2) := by decide +kernel
theorem dX11_costOf_145 : decode cX11_costOf 145 = .ok (.iadd, 1) := by decide +kernel
theorem dX11_costOf_146 : decode cX11_costOf 146 = .ok (.iaload, 1) := by decide +kernel
theorem dX11_costOf_147 : decode cX11_costOf 147 = .ok (.imul, 1) := by decide +kernel
theorem dX11_costOf_148 : decode cX11_costOf 148 = .ok (.iload 7, 2) := by decide +kernel
theorem dX11_costOf_150 : decode cX11_costOf 150 = .ok (.iadd, 1) := by decide +kernel
theorem dX11_costOf_151 : decode cX11_costOf 151 = .ok (.iaload, 1) := by decide +kernel
theorem dX11_costOf_152 : decode cX11_costOf 152 = .ok (.iload 5, 2) := by decide +kernel
theorem dX11_costOf_154 : decode cX11_costOf 154 = .ok (.iload 6, 2) := by decide +kernel
theorem dX11_costOf_156 : decode cX11_costOf 156 = .ok (.if_icmp .eq 7, 3) := by decide +kernel
theorem dX11_costOf_159 : decode cX11_costOf 159 = .ok (.iconst 1, 1) := by decide +kernel
theorem dX11_costOf_160 : decode cX11_costOf 160 = .ok (.goto 4, 3) := by decide +kernel
theorem dX11_costOf_163 : decode cX11_costOf 163 = .ok (.iconst 0, 1) := by decide +kernel
theorem dX11_costOf_164 : decode cX11_costOf 164 = .ok (.iadd, 1) := by decide +kernel
theorem dX11_costOf_165 : decode cX11_costOf 165 = .ok (.iadd, 1) := by decide +kernel
theorem dX11_costOf_166 : decode cX11_costOf 166 = .ok (.istore_n 3, 1) := by decide +kernel
theorem dX11_costOf_167 : decode cX11_costOf 167 = .ok (.iinc 5 1, 3) := by decide +kernel
theorem dX11_costOf_170 : decode cX11_costOf 170 = .ok (.goto (-142), 3) := by decide +kernel
theorem dX11_costOf_173 : decode cX11_costOf 173 = .ok (.iconst 0, 1) := by decide +kernel
theorem dX11_costOf_174 : decode cX11_costOf 174 = .ok (.istore 5, 2) := by decide +kernel
theorem dX11_costOf_176 : decode cX11_costOf 176 = .ok (.iload 5, 2) := by decide +kernel
theorem dX11_costOf_178 : decode cX11_costOf 178 = .ok (.aload_n 0, 1) := by decide +kernel
theorem dX11_costOf_179 : decode cX11_costOf 179 = .ok (.getfield 35, 3) := by decide +kernel
theorem dX11_costOf_182 : decode cX11_costOf 182 = .ok (.iload_n 1, 1) := by decide +kernel
theorem dX11_costOf_183 : decode cX11_costOf 183 = .ok (.iaload, 1) := by decide +kernel
theorem dX11_costOf_184 : decode cX11_costOf 184 = .ok (.if_icmp .ge 27, 3) := by decide +kernel
theorem dX11_costOf_187 : decode cX11_costOf 187 = .ok (.iload_n 3, 1) := by decide +kernel
theorem dX11_costOf_188 : decode cX11_costOf 188 = .ok (.iload 4, 2) := by decide +kernel
theorem dX11_costOf_190 : decode cX11_costOf 190 = .ok (.iload 5, 2) := by decide +kernel
theorem dX11_costOf_192 : decode cX11_costOf 192 = .ok (.ishr, 1) := by decide +kernel
theorem dX11_costOf_193 : decode cX11_costOf 193 = .ok (.iconst 1, 1) := by decide +kernel
theorem dX11_costOf_194 : decode cX11_costOf 194 = .ok (.iand, 1) := by decide +kernel
theorem dX11_costOf_195 : decode cX11_costOf 195 = .ok (.ifCond .ne 7, 3) := by decide +kernel
theorem dX11_costOf_198 : decode cX11_costOf 198 = .ok (.iconst 4, 1) := by decide +kernel
theorem dX11_costOf_199 : decode cX11_costOf 199 = .ok (.goto 4, 3) := by decide +kernel
theorem dX11_costOf_202 : decode cX11_costOf 202 = .ok (.iconst 0, 1) := by decide +kernel
theorem dX11_costOf_203 : decode cX11_costOf 203 = .ok (.iadd, 1) := by decide +kernel
theorem dX11_costOf_204 : decode cX11_costOf 204 = .ok (.istore_n 3, 1) := by decide +kernel
theorem dX11_costOf_205 : decode cX11_costOf 205 = .ok (.iinc 5 1, 3) := by decide +kernel
theorem dX11_costOf_208 : decode cX11_costOf 208 = .ok (.goto (-32), 3) := by decide +kernel
theorem dX11_costOf_211 : decode cX11_costOf 211 = .ok (.iload_n 3, 1) := by decide +kernel
theorem dX11_costOf_212 : decode cX11_costOf 212 = .ok (.ireturn, 1) := by decide +kernel
theorem dX11_nextPlaces_0 : decode cX11_nextPlaces 0 = .ok (.aload_n 0, 1) := by decide +kernel
theorem dX11_nextPlaces_1 : decode cX11_nextPlaces 1 = .ok (.getfield 35, 3) := by decide +kernel
theorem dX11_nextPlaces_4 : decode cX11_nextPlaces 4 = .ok (.iload_n 1, 1) := by decide +kernel
theorem dX11_nextPlaces_5 : decode cX11_nextPlaces 5 = .ok (.iaload, 1) := by decide +kernel
theorem dX11_nextPlaces_6 : decode cX11_nextPlaces 6 = .ok (.iconst 1, 1) := by decide +kernel
theorem dX11_nextPlaces_7 : decode cX11_nextPlaces 7 = .ok (.isub, 1) := by decide +kernel
theorem dX11_nextPlaces_8 : decode cX11_nextPlaces 8 = .ok (.istore_n 2, 1) := by decide +kernel
theorem dX11_nextPlaces_9 : decode cX11_nextPlaces 9 = .ok (.iload_n 2, 1) := by decide +kernel
theorem dX11_nextPlaces_10 : decode cX11_nextPlaces 10 = .ok (.ifCond .lt 26, 3) := by decide +kernel
theorem dX11_nextPlaces_13 : decode cX11_nextPlaces 13 = .ok (.aload_n 0, 1) := by decide +kernel
theorem dX11_nextPlaces_14 : decode cX11_nextPlaces 14 = .ok (.getfield 90, 3) := by decide +kernel
theorem dX11_nextPlaces_17 : decode cX11_nextPlaces 17 = .ok (.iload_n 2, 1) := by decide +kernel
theorem dX11_nextPlaces_18 : decode cX11_nextPlaces 18 = .ok (.iaload, 1) := by decide +kernel
theorem dX11_nextPlaces_19 : decode cX11_nextPlaces 19 = .ok (.iconst 4, 1) := by decide +kernel
theorem dX11_nextPlaces_20 : decode cX11_nextPlaces 20 = .ok (.if_icmp .ne 16, 3) := by decide +kernel
theorem dX11_nextPlaces_23 : decode cX11_nextPlaces 23 = .ok (.aload_n 0, 1) := by decide +kernel
theorem dX11_nextPlaces_24 : decode cX11_nextPlaces 24 = .ok (.getfield 90, 3) := by decide +kernel
theorem dX11_nextPlaces_27 : decode cX11_nextPlaces 27 = .ok (.iload_n 2, 1) := by decide +kernel
theorem dX11_nextPlaces_28 : decode cX11_nextPlaces 28 = .ok (.iconst 0, 1) := by decide +kernel
theorem dX11_nextPlaces_29 : decode cX11_nextPlaces 29 = .ok (.iastore, 1) := by decide +kernel
theorem dX11_nextPlaces_30 : decode cX11_nextPlaces 30 = .ok (.iinc 2 (-1), 3) := by decide +kernel
theorem dX11_nextPlaces_33 : decode cX11_nextPlaces 33 = .ok (.goto (-24), 3) := by decide +kernel
theorem dX11_nextPlaces_36 : decode cX11_nextPlaces 36 = .ok (.iload_n 2, 1) := by decide +kernel
theorem dX11_nextPlaces_37 : decode cX11_nextPlaces 37 = .ok (.ifCond .ge 5, 3) := by decide +kernel
theorem dX11_nextPlaces_40 : decode cX11_nextPlaces 40 = .ok (.iconst 0, 1) := by decide +kernel
theorem dX11_nextPlaces_41 : decode cX11_nextPlaces 41 = .ok (.ireturn, 1) := by decide +kernel
theorem dX11_nextPlaces_42 : decode cX11_nextPlaces 42 = .ok (.aload_n 0, 1) := by decide +kernel
theorem dX11_nextPlaces_43 : decode cX11_nextPlaces 43 = .ok (.getfield 90, 3) := by decide +kernel
theorem dX11_nextPlaces_46 : decode cX11_nextPlaces 46 = .ok (.iload_n 2, 1) := by decide +kernel
theorem dX11_nextPlaces_47 : decode cX11_nextPlaces 47 = .ok (.dup2, 1) := by decide +kernel
theorem dX11_nextPlaces_48 : decode cX11_nextPlaces 48 = .ok (.iaload, 1) := by decide +kernel
theorem dX11_nextPlaces_49 : decode cX11_nextPlaces 49 = .ok (.iconst 1, 1) := by decide +kernel
theorem dX11_nextPlaces_50 : decode cX11_nextPlaces 50 = .ok (.iadd, 1) := by decide +kernel
theorem dX11_nextPlaces_51 : decode cX11_nextPlaces 51 = .ok (.iastore, 1) := by decide +kernel
theorem dX11_nextPlaces_52 : decode cX11_nextPlaces 52 = .ok (.iconst 1, 1) := by decide +kernel
theorem dX11_nextPlaces_53 : decode cX11_nextPlaces 53 = .ok (.ireturn, 1) := by decide +kernel
theorem dX11_serve_0 : decode cX11_serve 0 = .ok (.aload_n 0, 1) := by decide +kernel
theorem dX11_serve_1 : decode cX11_serve 1 = .ok (.ldc 180, 2) := by decide +kernel
theorem dX11_serve_3 : decode cX11_serve 3 = .ok (.putfield 242, 3) := by decide +kernel
theorem dX11_serve_6 : decode cX11_serve 6 = .ok (.aload_n 0, 1) := by decide +kernel
theorem dX11_serve_7 : decode cX11_serve 7 = .ok (.getfield 32, 3) := by decide +kernel
theorem dX11_serve_10 : decode cX11_serve 10 = .ok (.iload_n 1, 1) := by decide +kernel
theorem dX11_serve_11 : decode cX11_serve 11 = .ok (.iaload, 1) := by decide +kernel
theorem dX11_serve_12 : decode cX11_serve 12 = .ok (.aload_n 0, 1) := by decide +kernel
theorem dX11_serve_13 : decode cX11_serve 13 = .ok (.getfield 32, 3) := by decide +kernel
theorem dX11_serve_16 : decode cX11_serve 16 = .ok (.iload_n 2, 1) := by decide +kernel
theorem dX11_serve_17 : decode cX11_serve 17 = .ok (.iaload, 1) := by decide +kernel
theorem dX11_serve_18 : decode cX11_serve 18 = .ok (.if_icmp .ne 7, 3) := by decide +kernel
theorem dX11_serve_21 : decode cX11_serve 21 = .ok (.iconst 0, 1) := by decide +kernel
theorem dX11_serve_22 : decode cX11_serve 22 = .ok (.goto 33, 3) := by decide +kernel
theorem dX11_serve_25 : decode cX11_serve 25 = .ok (.aload_n 0, 1) := by decide +kernel
theorem dX11_serve_26 : decode cX11_serve 26 = .ok (.getfield 56, 3) := by decide +kernel
theorem dX11_serve_29 : decode cX11_serve 29 = .ok (.bipush 100, 2) := by decide +kernel
theorem dX11_serve_31 : decode cX11_serve 31 = .ok (.aload_n 0, 1) := by decide +kernel
theorem dX11_serve_32 : decode cX11_serve 32 = .ok (.getfield 32, 3) := by decide +kernel
theorem dX11_serve_35 : decode cX11_serve 35 = .ok (.iload_n 1, 1) := by decide +kernel
theorem dX11_serve_36 : decode cX11_serve 36 = .ok (.iaload, 1) := by decide +kernel
theorem dX11_serve_37 : decode cX11_serve 37 = .ok (.imul, 1) := by decide +kernel
theorem dX11_serve_38 : decode cX11_serve 38 = .ok (.aload_n 0, 1) := by decide +kernel
theorem dX11_serve_39 : decode cX11_serve 39 = .ok (.getfield 32, 3) := by decide +kernel
theorem dX11_serve_42 : decode cX11_serve 42 = .ok (.iload_n 2, 1) := by decide +kernel
