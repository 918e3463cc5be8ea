theorem dX10_times_65 : decode cX10_times 65 = .ok (.invokestatic 82, 3) := by decide +kernel
theorem dX10_times_68 : decode cX10_times 68 = .ok (.ifCond .ne 6, 3) := by decide +kernel
theorem dX10_times_71 : decode cX10_times 71 = .ok (.bipush (-3), 2) := by decide +kernel
theorem dX10_times_73 : decode cX10_times 73 = .ok (.ireturn, 1) := by decide +kernel
theorem dX10_times_74 : decode cX10_times 74 = .ok (.aload 5, 2) := by decide +kernel
theorem dX10_times_76 : decode cX10_times 76 = .ok (.getfield 167, 3) := by decide +kernel
theorem dX10_times_79 : decode cX10_times 79 = .ok (.iload_n 3, 1) := by decide +kernel
theorem dX10_times_80 : decode cX10_times 80 = .ok (.iaload, 1) := by decide +kernel
theorem dX10_times_81 : decode cX10_times 81 = .ok (.istore 6, 2) := by decide +kernel
theorem dX10_times_83 : decode cX10_times 83 = .ok (.aload 5, 2) := by decide +kernel
theorem dX10_times_85 : decode cX10_times 85 = .ok (.getfield 167, 3) := by decide +kernel
theorem dX10_times_88 : decode cX10_times 88 = .ok (.iload_n 3, 1) := by decide +kernel
theorem dX10_times_89 : decode cX10_times 89 = .ok (.iload 4, 2) := by decide +kernel
theorem dX10_times_91 : decode cX10_times 91 = .ok (.iastore, 1) := by decide +kernel
theorem dX10_times_92 : decode cX10_times 92 = .ok (.iload 6, 2) := by decide +kernel
theorem dX10_times_94 : decode cX10_times 94 = .ok (.ireturn, 1) := by decide +kernel
theorem dX10_strip_0 : decode cX10_strip 0 = .ok (.iload_n 2, 1) := by decide +kernel
theorem dX10_strip_1 : decode cX10_strip 1 = .ok (.iconst 0, 1) := by decide +kernel
theorem dX10_strip_2 : decode cX10_strip 2 = .ok (.iload_n 1, 1) := by decide +kernel
theorem dX10_strip_3 : decode cX10_strip 3 = .ok (.ifCond .eq 8, 3) := by decide +kernel
theorem dX10_strip_6 : decode cX10_strip 6 = .ok (.bipush 10, 2) := by decide +kernel
theorem dX10_strip_8 : decode cX10_strip 8 = .ok (.goto 5, 3) := by decide +kernel
theorem dX10_strip_11 : decode cX10_strip 11 = .ok (.bipush 10, 2) := by decide +kernel
theorem dX10_strip_13 : decode cX10_strip 13 = .ok (.iconst 1, 1) := by decide +kernel
theorem dX10_strip_14 : decode cX10_strip 14 = .ok (.isub, 1) := by decide +kernel
theorem dX10_strip_15 : decode cX10_strip 15 = .ok (.invokestatic 82, 3) := by decide +kernel
theorem dX10_strip_18 : decode cX10_strip 18 = .ok (.ifCond .ne 6, 3) := by decide +kernel
theorem dX10_strip_21 : decode cX10_strip 21 = .ok (.bipush (-3), 2) := by decide +kernel
theorem dX10_strip_23 : decode cX10_strip 23 = .ok (.ireturn, 1) := by decide +kernel
theorem dX10_strip_24 : decode cX10_strip 24 = .ok (.iload_n 1, 1) := by decide +kernel
theorem dX10_strip_25 : decode cX10_strip 25 = .ok (.ifCond .eq 11, 3) := by decide +kernel
theorem dX10_strip_28 : decode cX10_strip 28 = .ok (.aload_n 0, 1) := by decide +kernel
theorem dX10_strip_29 : decode cX10_strip 29 = .ok (.getfield 50, 3) := by decide +kernel
theorem dX10_strip_32 : decode cX10_strip 32 = .ok (.iload_n 2, 1) := by decide +kernel
theorem dX10_strip_33 : decode cX10_strip 33 = .ok (.invokevirtual 145, 3) := by decide +kernel
theorem dX10_strip_36 : decode cX10_strip 36 = .ok (.aload_n 0, 1) := by decide +kernel
theorem dX10_strip_37 : decode cX10_strip 37 = .ok (.getfield 41, 3) := by decide +kernel
theorem dX10_strip_40 : decode cX10_strip 40 = .ok (.iload_n 1, 1) := by decide +kernel
theorem dX10_strip_41 : decode cX10_strip 41 = .ok (.ifCond .eq 10, 3) := by decide +kernel
theorem dX10_strip_44 : decode cX10_strip 44 = .ok (.bipush 10, 2) := by decide +kernel
theorem dX10_strip_46 : decode cX10_strip 46 = .ok (.iload_n 2, 1) := by decide +kernel
theorem dX10_strip_47 : decode cX10_strip 47 = .ok (.iadd, 1) := by decide +kernel
theorem dX10_strip_48 : decode cX10_strip 48 = .ok (.goto 4, 3) := by decide +kernel
theorem dX10_strip_51 : decode cX10_strip 51 = .ok (.iload_n 2, 1) := by decide +kernel
theorem dX10_strip_52 : decode cX10_strip 52 = .ok (.aaload, 1) := by decide +kernel
theorem dX10_strip_53 : decode cX10_strip 53 = .ok (.astore_n 3, 1) := by decide +kernel
theorem dX10_strip_54 : decode cX10_strip 54 = .ok (.aload_n 3, 1) := by decide +kernel
theorem dX10_strip_55 : decode cX10_strip 55 = .ok (.getfield 142, 3) := by decide +kernel
theorem dX10_strip_58 : decode cX10_strip 58 = .ok (.istore 4, 2) := by decide +kernel
theorem dX10_strip_60 : decode cX10_strip 60 = .ok (.aload_n 3, 1) := by decide +kernel
theorem dX10_strip_61 : decode cX10_strip 61 = .ok (.iconst 0, 1) := by decide +kernel
theorem dX10_strip_62 : decode cX10_strip 62 = .ok (.putfield 142, 3) := by decide +kernel
theorem dX10_strip_65 : decode cX10_strip 65 = .ok (.iload 4, 2) := by decide +kernel
theorem dX10_strip_67 : decode cX10_strip 67 = .ok (.ireturn, 1) := by decide +kernel
theorem dX10_alias_0 : decode cX10_alias 0 = .ok (.iload_n 1, 1) := by decide +kernel
theorem dX10_alias_1 : decode cX10_alias 1 = .ok (.invokestatic 136, 3) := by decide +kernel
theorem dX10_alias_4 : decode cX10_alias 4 = .ok (.ifCond .eq 15, 3) := by decide +kernel
theorem dX10_alias_7 : decode cX10_alias 7 = .ok (.iload_n 2, 1) := by decide +kernel
theorem dX10_alias_8 : decode cX10_alias 8 = .ok (.invokestatic 136, 3) := by decide +kernel
theorem dX10_alias_11 : decode cX10_alias 11 = .ok (.ifCond .eq 8, 3) := by decide +kernel
theorem dX10_alias_14 : decode cX10_alias 14 = .ok (.iload_n 1, 1) := by decide +kernel
theorem dX10_alias_15 : decode cX10_alias 15 = .ok (.iload_n 2, 1) := by decide +kernel
theorem dX10_alias_16 : decode cX10_alias 16 = .ok (.if_icmp .ne 5, 3) := by decide +kernel
theorem dX10_alias_19 : decode cX10_alias 19 = .ok (.iconst 0, 1) := by decide +kernel
theorem dX10_alias_20 : decode cX10_alias 20 = .ok (.ireturn, 1) := by decide +kernel
theorem dX10_alias_21 : decode cX10_alias 21 = .ok (.iload_n 3, 1) := by decide +kernel
theorem dX10_alias_22 : decode cX10_alias 22 = .ok (.ifCond .eq 15, 3) := by decide +kernel
theorem dX10_alias_25 : decode cX10_alias 25 = .ok (.aload_n 0, 1) := by decide +kernel
theorem dX10_alias_26 : decode cX10_alias 26 = .ok (.getfield 19, 3) := by decide +kernel
theorem dX10_alias_29 : decode cX10_alias 29 = .ok (.iload_n 1, 1) := by decide +kernel
theorem dX10_alias_30 : decode cX10_alias 30 = .ok (.iload_n 2, 1) := by decide +kernel
theorem dX10_alias_31 : decode cX10_alias 31 = .ok (.invokevirtual 171, 3) := by decide +kernel
theorem dX10_alias_34 : decode cX10_alias 34 = .ok (.goto 12, 3) := by decide +kernel
theorem dX10_alias_37 : decode cX10_alias 37 = .ok (.aload_n 0, 1) := by decide +kernel
theorem dX10_alias_38 : decode cX10_alias 38 = .ok (.getfield 19, 3) := by decide +kernel
theorem dX10_alias_41 : decode cX10_alias 41 = .ok (.iload_n 1, 1) := by decide +kernel
theorem dX10_alias_42 : decode cX10_alias 42 = .ok (.iload_n 2, 1) := by decide +kernel
theorem dX10_alias_43 : decode cX10_alias 43 = .ok (.invokevirtual 174, 3) := by decide +kernel
theorem dX10_alias_46 : decode cX10_alias 46 = .ok (.istore 4, 2) := by decide +kernel
theorem dX10_alias_48 : decode cX10_alias 48 = .ok (.iload 4, 2) := by decide +kernel
theorem dX10_alias_50 : decode cX10_alias 50 = .ok (.ifCond .eq 10, 3) := by decide +kernel
theorem dX10_alias_53 : decode cX10_alias 53 = .ok (.aload_n 0, 1) := by decide +kernel
theorem dX10_alias_54 : decode cX10_alias 54 = .ok (.getfield 50, 3) := by decide +kernel
theorem dX10_alias_57 : decode cX10_alias 57 = .ok (.invokevirtual 90, 3) := by decide +kernel
theorem dX10_alias_60 : decode cX10_alias 60 = .ok (.iload 4, 2) := by decide +kernel
theorem dX10_alias_62 : decode cX10_alias 62 = .ok (.ireturn, 1) := by decide +kernel
theorem dX10_constant_0 : decode cX10_constant 0 = .ok (.iload_n 1, 1) := by decide +kernel
theorem dX10_constant_1 : decode cX10_constant 1 = .ok (.invokestatic 78, 3) := by decide +kernel
theorem dX10_constant_4 : decode cX10_constant 4 = .ok (.ifCond .eq 15, 3) := by decide +kernel
theorem dX10_constant_7 : decode cX10_constant 7 = .ok (.iload_n 2, 1) := by decide +kernel
theorem dX10_constant_8 : decode cX10_constant 8 = .ok (.ifCond .eq 14, 3) := by decide +kernel
theorem dX10_constant_11 : decode cX10_constant 11 = .ok (.iload_n 1, 1) := by decide +kernel
theorem dX10_constant_12 : decode cX10_constant 12 = .ok (.lload_n 3, 1) := by decide +kernel
theorem dX10_constant_13 : decode cX10_constant 13 = .ok (.invokestatic 115, 3) := by decide +kernel
theorem dX10_constant_16 : decode cX10_constant 16 = .ok (.ifCond .ne 6, 3) := by decide +kernel
theorem dX10_constant_19 : decode cX10_constant 19 = .ok (.bipush (-3), 2) := by decide +kernel
theorem dX10_constant_21 : decode cX10_constant 21 = .ok (.ireturn, 1) := by decide +kernel
theorem dX10_constant_22 : decode cX10_constant 22 = .ok (.aload_n 0, 1) := by decide +kernel
theorem dX10_constant_23 : decode cX10_constant 23 = .ok (.getfield 26, 3) := by decide +kernel
theorem dX10_constant_26 : decode cX10_constant 26 = .ok (.getfield 177, 3) := by decide +kernel
theorem dX10_constant_29 : decode cX10_constant 29 = .ok (.iload_n 1, 1) := by decide +kernel
theorem dX10_constant_30 : decode cX10_constant 30 = .ok (.baload, 1) := by decide +kernel
theorem dX10_constant_31 : decode cX10_constant 31 = .ok (.ifCond .eq 7, 3) := by decide +kernel
theorem dX10_constant_34 : decode cX10_constant 34 = .ok (.iconst 1, 1) := by decide +kernel
theorem dX10_constant_35 : decode cX10_constant 35 = .ok (.goto 4, 3) := by decide +kernel
theorem dX10_constant_38 : decode cX10_constant 38 = .ok (.iconst 0, 1) := by decide +kernel
theorem dX10_constant_39 : decode cX10_constant 39 = .ok (.istore 5, 2) := by decide +kernel
theorem dX10_constant_41 : decode cX10_constant 41 = .ok (.aload_n 0, 1) := by decide +kernel
theorem dX10_constant_42 : decode cX10_constant 42 = .ok (.getfield 26, 3) := by decide +kernel
theorem dX10_constant_45 : decode cX10_constant 45 = .ok (.getfield 177, 3) := by decide +kernel
theorem dX10_constant_48 : decode cX10_constant 48 = .ok (.iload_n 1, 1) := by decide +kernel
theorem dX10_constant_49 : decode cX10_constant 49 = .ok (.iload_n 2, 1) := by decide +kernel
theorem dX10_constant_50 : decode cX10_constant 50 = .ok (.bastore, 1) := by decide +kernel
theorem dX10_constant_51 : decode cX10_constant 51 = .ok (.aload_n 0, 1) := by decide +kernel
theorem dX10_constant_52 : decode cX10_constant 52 = .ok (.getfield 26, 3) := by decide +kernel
theorem dX10_constant_55 : decode cX10_constant 55 = .ok (.getfield 181, 3) := by decide +kernel
theorem dX10_constant_58 : decode cX10_constant 58 = .ok (.iload_n 1, 1) := by decide +kernel
theorem dX10_constant_59 : decode cX10_constant 59 = .ok (.lload_n 3, 1) := by decide +kernel
theorem dX10_constant_60 : decode cX10_constant 60 = .ok (.lastore, 1) := by decide +kernel
theorem dX10_constant_61 : decode cX10_constant 61 = .ok (.aload_n 0, 1) := by decide +kernel
theorem dX10_constant_62 : decode cX10_constant 62 = .ok (.getfield 50, 3) := by decide +kernel
theorem dX10_constant_65 : decode cX10_constant 65 = .ok (.invokevirtual 90, 3) := by decide +kernel
theorem dX10_constant_68 : decode cX10_constant 68 = .ok (.iload 5, 2) := by decide +kernel
theorem dX10_constant_70 : decode cX10_constant 70 = .ok (.ireturn, 1) := by decide +kernel
theorem dX10_fit_0 : decode cX10_fit 0 = .ok (.iload_n 1, 1) := by decide +kernel
theorem dX10_fit_1 : decode cX10_fit 1 = .ok (.iload_n 3, 1) := by decide +kernel
theorem dX10_fit_2 : decode cX10_fit 2 = .ok (.invokestatic 185, 3) := by decide +kernel
theorem dX10_fit_5 : decode cX10_fit 5 = .ok (.ifCond .eq 13, 3) := by decide +kernel
theorem dX10_fit_8 : decode cX10_fit 8 = .ok (.iload 4, 2) := by decide +kernel
theorem dX10_fit_10 : decode cX10_fit 10 = .ok (.iconst 0, 1) := by decide +kernel
theorem dX10_fit_11 : decode cX10_fit 11 = .ok (.iconst 5, 1) := by decide +kernel
theorem dX10_fit_12 : decode cX10_fit 12 = .ok (.invokestatic 82, 3) := by decide +kernel
theorem dX10_fit_15 : decode cX10_fit 15 = .ok (.ifCond .ne 6, 3) := by decide +kernel
theorem dX10_fit_18 : decode cX10_fit 18 = .ok (.bipush (-3), 2) := by decide +kernel
theorem dX10_fit_20 : decode cX10_fit 20 = .ok (.ireturn, 1) := by decide +kernel
theorem dX10_fit_21 : decode cX10_fit 21 = .ok (.aload_n 0, 1) := by decide +kernel
theorem dX10_fit_22 : decode cX10_fit 22 = .ok (.getfield 41, 3) := by decide +kernel
theorem dX10_fit_25 : decode cX10_fit 25 = .ok (.bipush 10, 2) := by decide +kernel
theorem dX10_fit_27 : decode cX10_fit 27 = .ok (.iload_n 1, 1) := by decide +kernel
theorem dX10_fit_28 : decode cX10_fit 28 = .ok (.iadd, 1) := by decide +kernel
theorem dX10_fit_29 : decode cX10_fit 29 = .ok (.aaload, 1) := by decide +kernel
theorem dX10_fit_30 : decode cX10_fit 30 = .ok (.astore 5, 2) := by decide +kernel
theorem dX10_fit_32 : decode cX10_fit 32 = .ok (.aload 5, 2) := by decide +kernel
theorem dX10_fit_34 : decode cX10_fit 34 = .ok (.iload_n 2, 1) := by decide +kernel
theorem dX10_fit_35 : decode cX10_fit 35 = .ok (.invokevirtual 151, 3) := by decide +kernel
theorem dX10_fit_38 : decode cX10_fit 38 = .ok (.ifCond .ne 6, 3) := by decide +kernel
theorem dX10_fit_41 : decode cX10_fit 41 = .ok (.bipush (-2), 2) := by decide +kernel
theorem dX10_fit_43 : decode cX10_fit 43 = .ok (.ireturn, 1) := by decide +kernel
theorem dX10_fit_44 : decode cX10_fit 44 = .ok (.aload_n 0, 1) := by decide +kernel
theorem dX10_fit_45 : decode cX10_fit 45 = .ok (.getfield 35, 3) := by decide +kernel
theorem dX10_fit_48 : decode cX10_fit 48 = .ok (.aload 5, 2) := by decide +kernel
theorem dX10_fit_50 : decode cX10_fit 50 = .ok (.getfield 154, 3) := by decide +kernel
theorem dX10_fit_53 : decode cX10_fit 53 = .ok (.iload_n 2, 1) := by decide +kernel
theorem dX10_fit_54 : decode cX10_fit 54 = .ok (.aaload, 1) := by decide +kernel
theorem dX10_fit_55 : decode cX10_fit 55 = .ok (.aload_n 0, 1) := by decide +kernel
theorem dX10_fit_56 : decode cX10_fit 56 = .ok (.getfield 41, 3) := by decide +kernel
theorem dX10_fit_59 : decode cX10_fit 59 = .ok (.iload_n 3, 1) := by decide +kernel
theorem dX10_fit_60 : decode cX10_fit 60 = .ok (.aaload, 1) := by decide +kernel
theorem dX10_fit_61 : decode cX10_fit 61 = .ok (.invokevirtual 188, 3) := by decide +kernel
theorem dX10_fit_64 : decode cX10_fit 64 = .ok (.ifCond .ne 6, 3) := by decide +kernel
theorem dX10_fit_67 : decode cX10_fit 67 = .ok (.bipush (-6), 2) := by decide +kernel
theorem dX10_fit_69 : decode cX10_fit 69 = .ok (.ireturn, 1) := by decide +kernel
theorem dX10_fit_70 : decode cX10_fit 70 = .ok (.iload 4, 2) := by decide +kernel
theorem dX10_fit_72 : decode cX10_fit 72 = .ok (.ifCond .ne 11, 3) := by decide +kernel
theorem dX10_fit_75 : decode cX10_fit 75 = .ok (.aload_n 0, 1) := by decide +kernel
theorem dX10_fit_76 : decode cX10_fit 76 = .ok (.getfield 35, 3) := by decide +kernel
theorem dX10_fit_79 : decode cX10_fit 79 = .ok (.getfield 192, 3) := by decide +kernel
theorem dX10_fit_82 : decode cX10_fit 82 = .ok (.ireturn, 1) := by decide +kernel
theorem dX10_fit_83 : decode cX10_fit 83 = .ok (.iload 4, 2) := by decide +kernel
theorem dX10_fit_85 : decode cX10_fit 85 = .ok (.iconst 1, 1) := by decide +kernel
theorem dX10_fit_86 : decode cX10_fit 86 = .ok (.if_icmp .ne 11, 3) := by decide +kernel
theorem dX10_fit_89 : decode cX10_fit 89 = .ok (.aload_n 0, 1) := by decide +kernel
theorem dX10_fit_90 : decode cX10_fit 90 = .ok (.getfield 35, 3) := by decide +kernel
theorem dX10_fit_93 : decode cX10_fit 93 = .ok (.getfield 195, 3) := by decide +kernel
theorem dX10_fit_96 : decode cX10_fit 96 = .ok (.ireturn, 1) := by decide +kernel
theorem dX10_fit_97 : decode cX10_fit 97 = .ok (.iload 4, 2) := by decide +kernel
theorem dX10_fit_99 : decode cX10_fit 99 = .ok (.iconst 2, 1) := by decide +kernel
theorem dX10_fit_100 : decode cX10_fit 100 = .ok (.isub, 1) := by decide +kernel
theorem dX10_fit_101 : decode cX10_fit 101 = .ok (.istore 6, 2) := by decide +kernel
theorem dX10_fit_103 : decode cX10_fit 103 = .ok (.iload 6, 2) := by decide +kernel
theorem dX10_fit_105 : decode cX10_fit 105 = .ok (.aload_n 0, 1) := by decide +kernel
theorem dX10_fit_106 : decode cX10_fit 106 = .ok (.getfield 41, 3) := by decide +kernel
theorem dX10_fit_109 : decode cX10_fit 109 = .ok (.iload_n 3, 1) := by decide +kernel
theorem dX10_fit_110 : decode cX10_fit 110 = .ok (.aaload, 1) := by decide +kernel
theorem dX10_fit_111 : decode cX10_fit 111 = .ok (.getfield 154, 3) := by decide +kernel
theorem dX10_fit_114 : decode cX10_fit 114 = .ok (.aload_n 0, 1) := by decide +kernel
theorem dX10_fit_115 : decode cX10_fit 115 = .ok (.getfield 35, 3) := by decide +kernel
theorem dX10_fit_118 : decode cX10_fit 118 = .ok (.getfield 195, 3) := by decide +kernel
theorem dX10_fit_121 : decode cX10_fit 121 = .ok (.aaload, 1) := by decide +kernel
theorem dX10_fit_122 : decode cX10_fit 122 = .ok (.getfield 164, 3) := by decide +kernel
theorem dX10_fit_125 : decode cX10_fit 125 = .ok (.if_icmp .ge 16, 3) := by decide +kernel
theorem dX10_fit_128 : decode cX10_fit 128 = .ok (.aload_n 0, 1) := by decide +kernel
theorem dX10_fit_129 : decode cX10_fit 129 = .ok (.getfield 35, 3) := by decide +kernel
theorem dX10_fit_132 : decode cX10_fit 132 = .ok (.getfield 198, 3) := by decide +kernel
theorem dX10_fit_135 : decode cX10_fit 135 = .ok (.iload 6, 2) := by decide +kernel
theorem dX10_fit_137 : decode cX10_fit 137 = .ok (.iaload, 1) := by decide +kernel
theorem dX10_fit_138 : decode cX10_fit 138 = .ok (.goto 4, 3) := by decide +kernel
theorem dX10_fit_141 : decode cX10_fit 141 = .ok (.iconst (-1), 1) := by decide +kernel
theorem dX10_fit_142 : decode cX10_fit 142 = .ok (.ireturn, 1) := by decide +kernel
theorem dX10_fits_0 : decode cX10_fits 0 = .ok (.iload_n 1, 1) := by decide +kernel
theorem dX10_fits_1 : decode cX10_fits 1 = .ok (.iload_n 2, 1) := by decide +kernel
theorem dX10_fits_2 : decode cX10_fits 2 = .ok (.invokestatic 185, 3) := by decide +kernel
theorem dX10_fits_5 : decode cX10_fits 5 = .ok (.ifCond .ne 6, 3) := by decide +kernel
theorem dX10_fits_8 : decode cX10_fits 8 = .ok (.bipush (-3), 2) := by decide +kernel
theorem dX10_fits_10 : decode cX10_fits 10 = .ok (.ireturn, 1) := by decide +kernel
theorem dX10_fits_11 : decode cX10_fits 11 = .ok (.aload_n 0, 1) := by decide +kernel
theorem dX10_fits_12 : decode cX10_fits 12 = .ok (.getfield 35, 3) := by decide +kernel
theorem dX10_fits_15 : decode cX10_fits 15 = .ok (.aload_n 0, 1) := by decide +kernel
theorem dX10_fits_16 : decode cX10_fits 16 = .ok (.getfield 41, 3) := by decide +kernel
theorem dX10_fits_19 : decode cX10_fits 19 = .ok (.bipush 10, 2) := by decide +kernel
theorem dX10_fits_21 : decode cX10_fits 21 = .ok (.iload_n 1, 1) := by decide +kernel
theorem dX10_fits_22 : decode cX10_fits 22 = .ok (.iadd, 1) := by decide +kernel
theorem dX10_fits_23 : decode cX10_fits 23 = .ok (.aaload, 1) := by decide +kernel
theorem dX10_fits_24 : decode cX10_fits 24 = .ok (.aload_n 0, 1) := by decide +kernel
theorem dX10_fits_25 : decode cX10_fits 25 = .ok (.getfield 41, 3) := by decide +kernel
theorem dX10_fits_28 : decode cX10_fits 28 = .ok (.iload_n 2, 1) := by decide +kernel
theorem dX10_fits_29 : decode cX10_fits 29 = .ok (.aaload, 1) := by decide +kernel
theorem dX10_fits_30 : decode cX10_fits 30 = .ok (.invokevirtual 201, 3) := by decide +kernel
theorem dX10_fits_33 : decode cX10_fits 33 = .ok (.ireturn, 1) := by decide +kernel
theorem dX10_gap_0 : decode cX10_gap 0 = .ok (.iload_n 1, 1) := by decide +kernel
theorem dX10_gap_1 : decode cX10_gap 1 = .ok (.iload_n 2, 1) := by decide +kernel
theorem dX10_gap_2 : decode cX10_gap 2 = .ok (.invokestatic 185, 3) := by decide +kernel
theorem dX10_gap_5 : decode cX10_gap 5 = .ok (.ifCond .ne 6, 3) := by decide +kernel
theorem dX10_gap_8 : decode cX10_gap 8 = .ok (.bipush (-3), 2) := by decide +kernel
theorem dX10_gap_10 : decode cX10_gap 10 = .ok (.ireturn, 1) := by decide +kernel
theorem dX10_gap_11 : decode cX10_gap 11 = .ok (.aload_n 0, 1) := by decide +kernel
theorem dX10_gap_12 : decode cX10_gap 12 = .ok (.getfield 35, 3) := by decide +kernel
theorem dX10_gap_15 : decode cX10_gap 15 = .ok (.aload_n 0, 1) := by decide +kernel
theorem dX10_gap_16 : decode cX10_gap 16 = .ok (.getfield 41, 3) := by decide +kernel
theorem dX10_gap_19 : decode cX10_gap 19 = .ok (.bipush 10, 2) := by decide +kernel
theorem dX10_gap_21 : decode cX10_gap 21 = .ok (.iload_n 1, 1) := by decide +kernel
theorem dX10_gap_22 : decode cX10_gap 22 = .ok (.iadd, 1) := by decide +kernel
theorem dX10_gap_23 : decode cX10_gap 23 = .ok (.aaload, 1) := by decide +kernel
theorem dX10_gap_24 : decode cX10_gap 24 = .ok (.aload_n 0, 1) := by decide +kernel
theorem dX10_gap_25 : decode cX10_gap 25 = .ok (.getfield 41, 3) := by decide +kernel
theorem dX10_gap_28 : decode cX10_gap 28 = .ok (.iload_n 2, 1) := by decide +kernel
theorem dX10_gap_29 : decode cX10_gap 29 = .ok (.aaload, 1) := by decide +kernel
theorem dX10_gap_30 : decode cX10_gap 30 = .ok (.invokevirtual 205, 3) := by decide +kernel
theorem dX10_gap_33 : decode cX10_gap 33 = .ok (.ireturn, 1) := by decide +kernel
theorem dX10_way_0 : decode cX10_way 0 = .ok (.iload_n 1, 1) := by decide +kernel
theorem dX10_way_1 : decode cX10_way 1 = .ok (.iload_n 2, 1) := by decide +kernel
theorem dX10_way_2 : decode cX10_way 2 = .ok (.invokestatic 208, 3) := by decide +kernel
theorem dX10_way_5 : decode cX10_way 5 = .ok (.ifCond .eq 7, 3) := by decide +kernel
theorem dX10_way_8 : decode cX10_way 8 = .ok (.iload_n 3, 1) := by decide +kernel
theorem dX10_way_9 : decode cX10_way 9 = .ok (.ifCond .ge 6, 3) := by decide +kernel
theorem dX10_way_12 : decode cX10_way 12 = .ok (.bipush (-3), 2) := by decide +kernel
theorem dX10_way_14 : decode cX10_way 14 = .ok (.ireturn, 1) := by decide +kernel
theorem dX10_way_15 : decode cX10_way 15 = .ok (.aload_n 0, 1) := by decide +kernel
theorem dX10_way_16 : decode cX10_way 16 = .ok (.getfield 50, 3) := by decide +kernel
theorem dX10_way_19 : decode cX10_way 19 = .ok (.iload_n 1, 1) := by decide +kernel
theorem dX10_way_20 : decode cX10_way 20 = .ok (.iload_n 2, 1) := by decide +kernel
theorem dX10_way_21 : decode cX10_way 21 = .ok (.invokevirtual 211, 3) := by decide +kernel
theorem dX10_way_24 : decode cX10_way 24 = .ok (.ifCond .ne 5, 3) := by decide +kernel
theorem dX10_way_27 : decode cX10_way 27 = .ok (.iconst (-1), 1) := by decide +kernel
theorem dX10_way_28 : decode cX10_way 28 = .ok (.ireturn, 1) := by decide +kernel
theorem dX10_way_29 : decode cX10_way 29 = .ok (.iload_n 3, 1) := by decide +kernel
theorem dX10_way_30 : decode cX10_way 30 = .ok (.ifCond .ne 11, 3) := by decide +kernel
theorem dX10_way_33 : decode cX10_way 33 = .ok (.aload_n 0, 1) := by decide +kernel
theorem dX10_way_34 : decode cX10_way 34 = .ok (.getfield 50, 3) := by decide +kernel
theorem dX10_way_37 : decode cX10_way 37 = .ok (.getfield 213, 3) := by decide +kernel
theorem dX10_way_40 : decode cX10_way 40 = .ok (.ireturn, 1) := by decide +kernel
theorem dX10_way_41 : decode cX10_way 41 = .ok (.iload_n 3, 1) := by decide +kernel
theorem dX10_way_42 : decode cX10_way 42 = .ok (.iconst 1, 1) := by decide +kernel
theorem dX10_way_43 : decode cX10_way 43 = .ok (.if_icmp .ne 11, 3) := by decide +kernel
theorem dX10_way_46 : decode cX10_way 46 = .ok (.aload_n 0, 1) := by decide +kernel
theorem dX10_way_47 : decode cX10_way 47 = .ok (.getfield 50, 3) := by decide +kernel
theorem dX10_way_50 : decode cX10_way 50 = .ok (.getfield 214, 3) := by decide +kernel
theorem dX10_way_53 : decode cX10_way 53 = .ok (.ireturn, 1) := by decide +kernel
theorem dX10_way_54 : decode cX10_way 54 = .ok (.iload_n 3, 1) := by decide +kernel
theorem dX10_way_55 : decode cX10_way 55 = .ok (.iconst 2, 1) := by decide +kernel
theorem dX10_way_56 : decode cX10_way 56 = .ok (.isub, 1) := by decide +kernel
theorem dX10_way_57 : decode cX10_way 57 = .ok (.aload_n 0, 1) := by decide +kernel
theorem dX10_way_58 : decode cX10_way 58 = .ok (.getfield 50, 3) := by decide +kernel
theorem dX10_way_61 : decode cX10_way 61 = .ok (.getfield 214, 3) := by decide +kernel
theorem dX10_way_64 : decode cX10_way 64 = .ok (.if_icmp .ge 17, 3) := by decide +kernel
theorem dX10_way_67 : decode cX10_way 67 = .ok (.aload_n 0, 1) := by decide +kernel
theorem dX10_way_68 : decode cX10_way 68 = .ok (.getfield 50, 3) := by decide +kernel
theorem dX10_way_71 : decode cX10_way 71 = .ok (.getfield 217, 3) := by decide +kernel
theorem dX10_way_74 : decode cX10_way 74 = .ok (.iload_n 3, 1) := by decide +kernel
theorem dX10_way_75 : decode cX10_way 75 = .ok (.iconst 2, 1) := by decide +kernel
theorem dX10_way_76 : decode cX10_way 76 = .ok (.isub, 1) := by decide +kernel
theorem dX10_way_77 : decode cX10_way 77 = .ok (.iaload, 1) := by decide +kernel
theorem dX10_way_78 : decode cX10_way 78 = .ok (.goto 4, 3) := by decide +kernel
theorem dX10_way_81 : decode cX10_way 81 = .ok (.iconst (-1), 1) := by decide +kernel
theorem dX10_way_82 : decode cX10_way 82 = .ok (.ireturn, 1) := by decide +kernel
theorem dX10_object_0 : decode cX10_object 0 = .ok (.iload_n 1, 1) := by decide +kernel
theorem dX10_object_1 : decode cX10_object 1 = .ok (.iconst 0, 1) := by decide +kernel
theorem dX10_object_2 : decode cX10_object 2 = .ok (.bipush 9, 2) := by decide +kernel
theorem dX10_object_4 : decode cX10_object 4 = .ok (.invokestatic 82, 3) := by decide +kernel
theorem dX10_object_7 : decode cX10_object 7 = .ok (.ifCond .ne 6, 3) := by decide +kernel
theorem dX10_object_10 : decode cX10_object 10 = .ok (.bipush (-3), 2) := by decide +kernel
theorem dX10_object_12 : decode cX10_object 12 = .ok (.ireturn, 1) := by decide +kernel
theorem dX10_object_13 : decode cX10_object 13 = .ok (.aload_n 0, 1) := by decide +kernel
theorem dX10_object_14 : decode cX10_object 14 = .ok (.getfield 57, 3) := by decide +kernel
theorem dX10_object_17 : decode cX10_object 17 = .ok (.getfield 220, 3) := by decide +kernel
theorem dX10_object_20 : decode cX10_object 20 = .ok (.bipush 20, 2) := by decide +kernel
theorem dX10_object_22 : decode cX10_object 22 = .ok (.if_icmp .lt 8, 3) := by decide +kernel
theorem dX10_object_25 : decode cX10_object 25 = .ok (.bipush (-5), 2) := by decide +kernel
theorem dX10_object_27 : decode cX10_object 27 = .ok (.goto 11, 3) := by decide +kernel
theorem dX10_object_30 : decode cX10_object 30 = .ok (.aload_n 0, 1) := by decide +kernel
theorem dX10_object_31 : decode cX10_object 31 = .ok (.getfield 57, 3) := by decide +kernel
theorem dX10_object_34 : decode cX10_object 34 = .ok (.iload_n 1, 1) := by decide +kernel
theorem dX10_object_35 : decode cX10_object 35 = .ok (.invokevirtual 221, 3) := by decide +kernel
theorem dX10_object_38 : decode cX10_object 38 = .ok (.ireturn, 1) := by decide +kernel
theorem dX10_put_0 : decode cX10_put 0 = .ok (.aload_n 0, 1) := by decide +kernel
theorem dX10_put_1 : decode cX10_put 1 = .ok (.getfield 57, 3) := by decide +kernel
theorem dX10_put_4 : decode cX10_put 4 = .ok (.iload_n 1, 1) := by decide +kernel
theorem dX10_put_5 : decode cX10_put 5 = .ok (.invokevirtual 224, 3) := by decide +kernel
theorem dX10_put_8 : decode cX10_put 8 = .ok (.ifCond .ne 6, 3) := by decide +kernel
theorem dX10_put_11 : decode cX10_put 11 = .ok (.bipush (-2), 2) := by decide +kernel
theorem dX10_put_13 : decode cX10_put 13 = .ok (.ireturn, 1) := by decide +kernel
theorem dX10_put_14 : decode cX10_put 14 = .ok (.iload_n 2, 1) := by decide +kernel
theorem dX10_put_15 : decode cX10_put 15 = .ok (.iconst 0, 1) := by decide +kernel
theorem dX10_put_16 : decode cX10_put 16 = .ok (.iconst 2, 1) := by decide +kernel
theorem dX10_put_17 : decode cX10_put 17 = .ok (.invokestatic 82, 3) := by decide +kernel
theorem dX10_put_20 : decode cX10_put 20 = .ok (.ifCond .ne 6, 3) := by decide +kernel
theorem dX10_put_23 : decode cX10_put 23 = .ok (.bipush (-3), 2) := by decide +kernel
theorem dX10_put_25 : decode cX10_put 25 = .ok (.ireturn, 1) := by decide +kernel
theorem dX10_put_26 : decode cX10_put 26 = .ok (.aload_n 0, 1) := by decide +kernel
theorem dX10_put_27 : decode cX10_put 27 = .ok (.getfield 57, 3) := by decide +kernel
theorem dX10_put_30 : decode cX10_put 30 = .ok (.getfield 225, 3) := by decide +kernel
theorem dX10_put_33 : decode cX10_put 33 = .ok (.iload_n 1, 1) := by decide +kernel
theorem dX10_put_34 : decode cX10_put 34 = .ok (.iconst 3, 1) := by decide +kernel
theorem dX10_put_35 : decode cX10_put 35 = .ok (.imul, 1) := by decide +kernel
theorem dX10_put_36 : decode cX10_put 36 = .ok (.iload_n 2, 1) := by decide +kernel
theorem dX10_put_37 : decode cX10_put 37 = .ok (.iadd, 1) := by decide +kernel
theorem dX10_put_38 : decode cX10_put 38 = .ok (.lload_n 3, 1) := by decide +kernel
theorem dX10_put_39 : decode cX10_put 39 = .ok (.lastore, 1) := by decide +kernel
theorem dX10_put_40 : decode cX10_put 40 = .ok (.iconst 0, 1) := by decide +kernel
theorem dX10_put_41 : decode cX10_put 41 = .ok (.ireturn, 1) := by decide +kernel
theorem dX10_field_0 : decode cX10_field 0 = .ok (.aload_n 0, 1) := by decide +kernel
theorem dX10_field_1 : decode cX10_field 1 = .ok (.getfield 57, 3) := by decide +kernel
theorem dX10_field_4 : decode cX10_field 4 = .ok (.iload_n 1, 1) := by decide +kernel
theorem dX10_field_5 : decode cX10_field 5 = .ok (.invokevirtual 224, 3) := by decide +kernel
theorem dX10_field_8 : decode cX10_field 8 = .ok (.ifCond .eq 12, 3) := by decide +kernel
theorem dX10_field_11 : decode cX10_field 11 = .ok (.iload_n 2, 1) := by decide +kernel
theorem dX10_field_12 : decode cX10_field 12 = .ok (.iconst 0, 1) := by decide +kernel
theorem dX10_field_13 : decode cX10_field 13 = .ok (.iconst 2, 1) := by decide +kernel
theorem dX10_field_14 : decode cX10_field 14 = .ok (.invokestatic 82, 3) := by decide +kernel
theorem dX10_field_17 : decode cX10_field 17 = .ok (.ifCond .ne 5, 3) := by decide +kernel
theorem dX10_field_20 : decode cX10_field 20 = .ok (.lconst 0, 1) := by decide +kernel
theorem dX10_field_21 : decode cX10_field 21 = .ok (.lreturn, 1) := by decide +kernel
theorem dX10_field_22 : decode cX10_field 22 = .ok (.aload_n 0, 1) := by decide +kernel
theorem dX10_field_23 : decode cX10_field 23 = .ok (.getfield 57, 3) := by decide +kernel
theorem dX10_field_26 : decode cX10_field 26 = .ok (.getfield 225, 3) := by decide +kernel
theorem dX10_field_29 : decode cX10_field 29 = .ok (.iload_n 1, 1) := by decide +kernel
theorem dX10_field_30 : decode cX10_field 30 = .ok (.iconst 3, 1) := by decide +kernel
theorem dX10_field_31 : decode cX10_field 31 = .ok (.imul, 1) := by decide +kernel
theorem dX10_field_32 : decode cX10_field 32 = .ok (.iload_n 2, 1) := by decide +kernel
theorem dX10_field_33 : decode cX10_field 33 = .ok (.iadd, 1) := by decide +kernel
theorem dX10_field_34 : decode cX10_field 34 = .ok (.laload, 1) := by decide +kernel
theorem dX10_field_35 : decode cX10_field 35 = .ok (.lreturn, 1) := by decide +kernel
theorem dX10_hand_0 : decode cX10_hand 0 = .ok (.iload_n 1, 1) := by decide +kernel
theorem dX10_hand_1 : decode cX10_hand 1 = .ok (.iconst 0, 1) := by decide +kernel
theorem dX10_hand_2 : decode cX10_hand 2 = .ok (.iconst 3, 1) := by decide +kernel
theorem dX10_hand_3 : decode cX10_hand 3 = .ok (.invokestatic 82, 3) := by decide +kernel
theorem dX10_hand_6 : decode cX10_hand 6 = .ok (.ifCond .ne 6, 3) := by decide +kernel
theorem dX10_hand_9 : decode cX10_hand 9 = .ok (.bipush (-3), 2) := by decide +kernel
theorem dX10_hand_11 : decode cX10_hand 11 = .ok (.ireturn, 1) := by decide +kernel
theorem dX10_hand_12 : decode cX10_hand 12 = .ok (.aload_n 0, 1) := by decide +kernel
theorem dX10_hand_13 : decode cX10_hand 13 = .ok (.getfield 73, 3) := by decide +kernel
theorem dX10_hand_16 : decode cX10_hand 16 = .ok (.getfield 228, 3) := by decide +kernel
theorem dX10_hand_19 : decode cX10_hand 19 = .ok (.iload_n 1, 1) := by decide +kernel
theorem dX10_hand_20 : decode cX10_hand 20 = .ok (.lload_n 2, 1) := by decide +kernel
theorem dX10_hand_21 : decode cX10_hand 21 = .ok (.lastore, 1) := by decide +kernel
theorem dX10_hand_22 : decode cX10_hand 22 = .ok (.iconst 0, 1) := by decide +kernel
theorem dX10_hand_23 : decode cX10_hand 23 = .ok (.ireturn, 1) := by decide +kernel
theorem dX10_call_0 : decode cX10_call 0 = .ok (.aload_n 0, 1) := by decide +kernel
theorem dX10_call_1 : decode cX10_call 1 = .ok (.getfield 57, 3) := by decide +kernel
theorem dX10_call_4 : decode cX10_call 4 = .ok (.iload_n 1, 1) := by decide +kernel
theorem dX10_call_5 : decode cX10_call 5 = .ok (.invokevirtual 224, 3) := by decide +kernel
theorem dX10_call_8 : decode cX10_call 8 = .ok (.ifCond .ne 6, 3) := by decide +kernel
theorem dX10_call_11 : decode cX10_call 11 = .ok (.bipush (-2), 2) := by decide +kernel
theorem dX10_call_13 : decode cX10_call 13 = .ok (.ireturn, 1) := by decide +kernel
theorem dX10_call_14 : decode cX10_call 14 = .ok (.iload_n 2, 1) := by decide +kernel
theorem dX10_call_15 : decode cX10_call 15 = .ok (.iconst 0, 1) := by decide +kernel
theorem dX10_call_16 : decode cX10_call 16 = .ok (.bipush 9, 2) := by decide +kernel
theorem dX10_call_18 : decode cX10_call 18 = .ok (.invokestatic 82, 3) := by decide +kernel
theorem dX10_call_21 : decode cX10_call 21 = .ok (.ifCond .ne 6, 3) := by decide +kernel
theorem dX10_call_24 : decode cX10_call 24 = .ok (.bipush (-3), 2) := by decide +kernel
theorem dX10_call_26 : decode cX10_call 26 = .ok (.ireturn, 1) := by decide +kernel
theorem dX10_call_27 : decode cX10_call 27 = .ok (.aload_n 0, 1) := by decide +kernel
theorem dX10_call_28 : decode cX10_call 28 = .ok (.getfield 41, 3) := by decide +kernel
theorem dX10_call_31 : decode cX10_call 31 = .ok (.bipush 10, 2) := by decide +kernel
theorem dX10_call_33 : decode cX10_call 33 = .ok (.iload_n 2, 1) := by decide +kernel
theorem dX10_call_34 : decode cX10_call 34 = .ok (.iadd, 1) := by decide +kernel
theorem dX10_call_35 : decode cX10_call 35 = .ok (.aaload, 1) := by decide +kernel
theorem dX10_call_36 : decode cX10_call 36 = .ok (.iload_n 3, 1) := by decide +kernel
theorem dX10_call_37 : decode cX10_call 37 = .ok (.invokevirtual 151, 3) := by decide +kernel
theorem dX10_call_40 : decode cX10_call 40 = .ok (.ifCond .ne 6, 3) := by decide +kernel
theorem dX10_call_43 : decode cX10_call 43 = .ok (.bipush (-2), 2) := by decide +kernel
theorem dX10_call_45 : decode cX10_call 45 = .ok (.ireturn, 1) := by decide +kernel
theorem dX10_call_46 : decode cX10_call 46 = .ok (.aload_n 0, 1) := by decide +kernel
theorem dX10_call_47 : decode cX10_call 47 = .ok (.getfield 73, 3) := by decide +kernel
theorem dX10_call_50 : decode cX10_call 50 = .ok (.aload_n 0, 1) := by decide +kernel
theorem dX10_call_51 : decode cX10_call 51 = .ok (.getfield 41, 3) := by decide +kernel
theorem dX10_call_54 : decode cX10_call 54 = .ok (.bipush 10, 2) := by decide +kernel
theorem dX10_call_56 : decode cX10_call 56 = .ok (.iload_n 2, 1) := by decide +kernel
theorem dX10_call_57 : decode cX10_call 57 = .ok (.iadd, 1) := by decide +kernel
theorem dX10_call_58 : decode cX10_call 58 = .ok (.aaload, 1) := by decide +kernel
