theorem dX10_times_65 : decode cX10_times 65 = .ok (.invokestatic 82, 3) := by decide +kernel
theorem dX10_times_68 : decode cX10_times 68 = .ok (.ifCond .ne 6, 3) := by decide +kernel
theorem dX10_times_71 : decode cX10_times 71 = .ok (.bipush (-3), 2) := by decide +kernel
theorem dX10_times_73 : decode cX10_times 73 = .ok (.ireturn, 1) := by decide +kernel
theorem dX10_times_74 : decode cX10_times 74 = .ok (.aload 5, 2) := by decide +kernel
theorem dX10_times_76 : decode cX10_times 76 = .ok (.getfield 167, 3) := by decide +kernel
theorem dX10_times_79 : decode cX10_times 79 = .ok (.iload_n 3, 1) := by decide +kernel
theorem dX10_times_80 : decode cX10_times 80 = .ok (.iaload, 1) := by decide +kernel
theorem dX10_times_81 : decode cX10_times 81 = .ok (.istore 6, 2) := by decide +kernel
theorem dX10_times_83 : decode cX10_times 83 = .ok (.aload 5, 2) := by decide +kernel
theorem dX10_times_85 : decode cX10_times 85 = .ok (.getfield 167, 3) := by decide +kernel
theorem dX10_times_88 : decode cX10_times 88 = .ok (.iload_n 3, 1) := by decide +kernel
theorem dX10_times_89 : decode cX10_times 89 = .ok (.iload 4, 2) := by decide +kernel
theorem dX10_times_91 : decode cX10_times 91 = .ok (.iastore, 1) := by decide +kernel
theorem dX10_times_92 : decode cX10_times 92 = .ok (.iload 6, 2) := by decide +kernel
theorem dX10_times_94 : decode cX10_times 94 = .ok (.ireturn, 1) := by decide +kernel
theorem dX10_strip_0 : decode cX10_strip 0 = .ok (.iload_n 2, 1) := by decide +kernel
theorem dX10_strip_1 : decode cX10_strip 1 = .ok (.iconst 0, 1) := by decide +kernel
theorem dX10_strip_2 : decode cX10_strip 2 = .ok (.iload_n 1, 1) := by decide +kernel
theorem dX10_strip_3 : decode cX10_strip 3 = .ok (.ifCond .eq 8, 3) := by decide +kernel
theorem dX10_strip_6 : decode cX10_strip 6 = .ok (.bipush 10, 2) := by decide +kernel
theorem dX10_strip_8 : decode cX10_strip 8 = .ok (.goto 5, 3) := by decide +kernel
theorem dX10_strip_11 : decode cX10_strip 11 = .ok (.bipush 10, 2) := by decide +kernel
theorem dX10_strip_13 : decode cX10_strip 13 = .ok (.iconst 1, 1) := by decide +kernel
theorem dX10_strip_14 : decode cX10_strip 14 = .ok (.isub, 1) := by decide +kernel
theorem dX10_strip_15 : decode cX10_strip 15 = .ok (.invokestatic 82, 3) := by decide +kernel
theorem dX10_strip_18 : decode cX10_strip 18 = .ok (.ifCond .ne 6, 3) := by decide +kernel
theorem dX10_strip_21 : decode cX10_strip 21 = .ok (.bipush (-3), 2) := by decide +kernel
theorem dX10_strip_23 : decode cX10_strip 23 = .ok (.ireturn, 1) := by decide +kernel
theorem dX10_strip_24 : decode cX10_strip 24 = .ok (.iload_n 1, 1) := by decide +kernel
theorem dX10_strip_25 : decode cX10_strip 25 = .ok (.ifCond .eq 11, 3) := by decide +kernel
theorem dX10_strip_28 : decode cX10_strip 28 = .ok (.aload_n 0, 1) := by decide +kernel
theorem dX10_strip_29 : decode cX10_strip 29 = .ok (.getfield 50, 3) := by decide +kernel
theorem dX10_strip_32 : decode cX10_strip 32 = .ok (.iload_n 2, 1) := by decide +kernel
theorem dX10_strip_33 : decode cX10_strip 33 = .ok (.invokevirtual 145, 3) := by decide +kernel
theorem dX10_strip_36 : decode cX10_strip 36 = .ok (.aload_n 0, 1) := by decide +kernel
theorem dX10_strip_37 : decode cX10_strip 37 = .ok (.getfield 41, 3) := by decide +kernel
theorem dX10_strip_40 : decode cX10_strip 40 = .ok (.iload_n 1, 1) := by decide +kernel
theorem dX10_strip_41 : decode cX10_strip 41 = .ok (.ifCond .eq 10, 3) := by decide +kernel
theorem dX10_strip_44 : decode cX10_strip 44 = .ok (.bipush 10, 2) := by decide +kernel
theorem dX10_strip_46 : decode cX10_strip 46 = .ok (.iload_n 2, 1) := by decide +kernel
theorem dX10_strip_47 : decode cX10_strip 47 = .ok (.iadd, 1) := by decide +kernel
theorem dX10_strip_48 : decode cX10_strip 48 = .ok (.goto 4, 3) := by decide +kernel
theorem dX10_strip_51 : decode cX10_strip 51 = .ok (.iload_n 2, 1) := by decide +kernel
theorem dX10_strip_52 : decode cX10_strip 52 = .ok (.aaload, 1) := by decide +kernel
theorem dX10_strip_53 : decode cX10_strip 53 = .ok (.astore_n 3, 1) := by decide +kernel
theorem dX10_strip_54 : decode cX10_strip 54 = .ok (.aload_n 3, 1) := by decide +kernel
theorem dX10_strip_55 : decode cX10_strip 55 = .ok (.getfield 142, 3) := by decide +kernel
theorem dX10_strip_58 : decode cX10_strip 58 = .ok (.istore 4, 2) := by decide +kernel
theorem dX10_strip_60 : decode cX10_strip 60 = .ok (.aload_n 3, 1) := by decide +kernel
theorem dX10_strip_61 : decode cX10_strip 61 = .ok (.iconst 0, 1) := by decide +kernel
theorem dX10_strip_62 : decode cX10_strip 62 = .ok (.putfield 142, 3) := by decide +kernel
theorem dX10_strip_65 : decode cX10_strip 65 = .ok (.iload 4, 2) := by decide +kernel
theorem dX10_strip_67 : decode cX10_strip 67 = .ok (.ireturn, 1) := by decide +kernel
theorem dX10_alias_0 : decode cX10_alias 0 = .ok (.iload_n 1, 1) := by decide +kernel
theorem dX10_alias_1 : decode cX10_alias 1 = .ok (.invokestatic 136, 3) := by decide +kernel
theorem dX10_alias_4 : decode cX10_alias 4 = .ok (.ifCond .eq 15, 3) := by decide +kernel
theorem dX10_alias_7 : decode cX10_alias 7 = .ok (.iload_n 2, 1) := by decide +kernel
theorem dX10_alias_8 : decode cX10_alias 8 = .ok (.invokestatic 136, 3) := by decide +kernel
theorem dX10_alias_11 : decode cX10_alias 11 = .ok (.ifCond .eq 8, 3) := by decide +kernel
theorem dX10_alias_14 : decode cX10_alias 14 = .ok (.iload_n 1, 1) := by decide +kernel
theorem dX10_alias_15 : decode cX10_alias 15 = .ok (.iload_n 2, 1) := by decide +kernel
theorem dX10_alias_16 : decode cX10_alias 16 = .ok (.if_icmp .ne 5, 3) := by decide +kernel
theorem dX10_alias_19 : decode cX10_alias 19 = .ok (.iconst 0, 1) := by decide +kernel
theorem dX10_alias_20 : decode cX10_alias 20 = .ok (.ireturn, 1) := by decide +kernel
theorem dX10_alias_21 : decode cX10_alias 21 = .ok (.iload_n 3, 1) := by decide +kernel
theorem dX10_alias_22 : decode cX10_alias 22 = .ok (.ifCond .eq 15, 3) := by decide +kernel
theorem dX10_alias_25 : decode cX10_alias 25 = .ok (.aload_n 0, 1) := by decide +kernel
theorem dX10_alias_26 : decode cX10_alias 26 = .ok (.getfield 19, 3) := by decide +kernel
theorem dX10_alias_29 : decode cX10_alias 29 = .ok (.iload_n 1, 1) := by decide +kernel
theorem dX10_alias_30 : decode cX10_alias 30 = .ok (.iload_n 2, 1) := by decide +kernel
theorem dX10_alias_31 : decode cX10_alias 31 = .ok (.invokevirtual 171, 3) := by decide +kernel
theorem dX10_alias_34 : decode cX10_alias 34 = .ok (.goto 12, 3) := by decide +kernel
theorem dX10_alias_37 : decode cX10_alias 37 = .ok (.aload_n 0, 1) := by decide +kernel
theorem dX10_alias_38 : decode cX10_alias 38 = .ok (.getfield 19, 3) := by decide +kernel
theorem dX10_alias_41 : decode cX10_alias 41 = .ok (.iload_n 1, 1) := by decide +kernel
theorem dX10_alias_42 : decode cX10_alias 42 = .ok (.iload_n 2, 1) := by decide +kernel
theorem dX10_alias_43 : decode cX10_alias 43 = .ok (.invokevirtual 174, 3) := by decide +kernel
theorem dX10_alias_46 : decode cX10_alias 46 = .ok (.istore 4, 2) := by decide +kernel
theorem dX10_alias_48 : decode cX10_alias 48 = .ok (.iload 4, 2) := by decide +kernel
theorem dX10_alias_50 : decode cX10_alias 50 = .ok (.ifCond .eq 10, 3) := by decide +kernel
theorem dX10_alias_53 : decode cX10_alias 53 = .ok (.aload_n 0, 1) := by decide +kernel
theorem dX10_alias_54 : decode cX10_alias 54 = .ok (.getfield 50, 3) := by decide +kernel
theorem dX10_alias_57 : decode cX10_alias 57 = .ok (.invokevirtual 90, 3) := by decide +kernel
theorem dX10_alias_60 : decode cX10_alias 60 = .ok (.iload 4, 2) := by decide +kernel
theorem dX10_alias_62 : decode cX10_alias 62 = .ok (.ireturn, 1) := by decide +kernel
theorem dX10_constant_0 : decode cX10_constant 0 = .ok (.iload_n 1, 1) := by decide +kernel
theorem dX10_constant_1 : decode cX10_constant 1 = .ok (.invokestatic 78, 3) := by decide +kernel
theorem dX10_constant_4 : decode cX10_constant 4 = .ok (.ifCond .eq 15, 3) := by decide +kernel
theorem dX10_constant_7 : decode cX10_constant 7 = .ok (.iload_n 2, 1) := by decide +kernel
theorem dX10_constant_8 : decode cX10_constant 8 = .ok (.ifCond .eq 14, 3) := by decide +kernel
theorem dX10_constant_11 : decode cX10_constant 11 = .ok (.iload_n 1, 1) := by decide +kernel
theorem dX10_constant_12 : decode cX10_constant 12 = .ok (.lload_n 3, 1) := by decide +kernel
theorem dX10_constant_13 : decode cX10_constant 13 = .ok (.invokestatic 115, 3) := by decide +kernel
theorem dX10_constant_16 : decode cX10_constant 16 = .ok (.ifCond .ne 6, 3) := by decide +kernel
theorem dX10_constant_19 : decode cX10_constant 19 = .ok (.bipush (-3), 2) := by decide +kernel
theorem dX10_constant_21 : decode cX10_constant 21 = .ok (.ireturn, 1) := by decide +kernel
theorem dX10_constant_22 : decode cX10_constant 22 = .ok (.aload_n 0, 1) := by decide +kernel
theorem dX10_constant_23 : decode cX10_constant 23 = .ok (.getfield 26, 3) := by decide +kernel
theorem dX10_constant_26 : decode cX10_constant 26 = .ok (.getfield 177, 3) := by decide +kernel
theorem dX10_constant_29 : decode cX10_constant 29 = .ok (.iload_n 1, 1) := by decide +kernel
theorem dX10_constant_30 : decode cX10_constant 30 = .ok (.baload, 1) := by decide +kernel
theorem dX10_constant_31 : decode cX10_constant 31 = .ok (.ifCond .eq 7, 3) := by decide +kernel
theorem dX10_constant_34 : decode cX10_constant 34 = .ok (.iconst 1, 1) := by decide +kernel
theorem dX10_constant_35 : decode cX10_constant 35 = .ok (.goto 4, 3) := by decide +kernel
theorem dX10_constant_38 : decode cX10_constant 38 = .ok (.iconst 0, 1) := by decide +kernel
theorem dX10_constant_39 : decode cX10_constant 39 = .ok (.istore 5, 2) := by decide +kernel
theorem dX10_constant_41 : decode cX10_constant 41 = .ok (.aload_n 0, 1) := by decide +kernel
theorem dX10_constant_42 : decode cX10_constant 42 = .ok (.getfield 26, 3) := by decide +kernel
theorem dX10_constant_45 : decode cX10_constant 45 = .ok (.getfield 177, 3) := by decide +kernel
theorem dX10_constant_48 : decode cX10_constant 48 = .ok (.iload_n 1, 1) := by decide +kernel
theorem dX10_constant_49 : decode cX10_constant 49 = .ok (.iload_n 2, 1) := by decide +kernel
theorem dX10_constant_50 : decode cX10_constant 50 = .ok (.bastore, 1) := by decide +kernel
theorem dX10_constant_51 : decode cX10_constant 51 = .ok (.aload_n 0, 1) := by decide +kernel
theorem dX10_constant_52 : decode cX10_constant 52 = .ok (.getfield 26, 3) := by decide +kernel
theorem dX10_constant_55 : decode cX10_constant 55 = .ok (.getfield 181, 3) := by decide +kernel
theorem dX10_constant_58 : decode cX10_constant 58 = .ok (.iload_n 1, 1) := by decide +kernel
theorem dX10_constant_59 : decode cX10_constant 59 = .ok (.lload_n 3, 1) := by decide +kernel
theorem dX10_constant_60 : decode cX10_constant 60 = .ok (.lastore, 1) := by decide +kernel
theorem dX10_constant_61 : decode cX10_constant 61 = .ok (.aload_n 0, 1) := by decide +kernel
theorem dX10_constant_62 : decode cX10_constant 62 = .ok (.getfield 50, 3) := by decide +kernel
theorem dX10_constant_65 : decode cX10_constant 65 = .ok (.invokevirtual 90, 3) := by decide +kernel
theorem dX10_constant_68 : decode cX10_constant 68 = .ok (.iload 5, 2) := by decide +kernel
theorem dX10_constant_70 : decode cX10_constant 70 = .ok (.ireturn, 1) := by decide +kernel
theorem dX10_fit_0 : decode cX10_fit 0 = .ok (.iload_n 1, 1) := by decide +kernel
theorem dX10_fit_1 : decode cX10_fit 1 = .ok (.iload_n 3, 1) := by decide +kernel
theorem dX10_fit_2 : decode cX10_fit 2 = .ok (.invokestatic 185, 3) := by decide +kernel
theorem dX10_fit_5 : decode cX10_fit 5 = .ok (.ifCond .eq 13, 3) := by decide +kernel
theorem dX10_fit_8 : decode cX10_fit 8 = .ok (.iload 4, 2) := by decide +kernel
theorem dX10_fit_10 : decode cX10_fit 10 = .ok (.iconst 0, 1) := by decide +kernel
theorem dX10_fit_11 : decode cX10_fit 11 = .ok (.iconst 5, 1) := by decide +kernel
theorem dX10_fit_12 : decode cX10_fit 12 = .ok (.invokestatic 82, 3) := by decide +kernel
theorem dX10_fit_15 : decode cX10_fit 15 = .ok (.ifCond .ne 6, 3) := by decide +kernel
theorem dX10_fit_18 : decode cX10_fit 18 = .ok (.bipush (-3), 2) := by decide +kernel
theorem dX10_fit_20 : decode cX10_fit 20 = .ok (.ireturn, 1) := by decide +kernel
theorem dX10_fit_21 : decode cX10_fit 21 = .ok (.aload_n 0, 1) := by decide +kernel
theorem dX10_fit_22 : decode cX10_fit 22 = .ok (.getfield 41, 3) := by decide +kernel
theorem dX10_fit_25 : decode cX10_fit 25 = .ok (.bipush 10, 2) := by decide +kernel
theorem dX10_fit_27 : decode cX10_fit 27 = .ok (.iload_n 1, 1) := by decide +kernel
theorem dX10_fit_28 : decode cX10_fit 28 = .ok (.iadd, 1) := by decide +kernel
theorem dX10_fit_29 : decode cX10_fit 29 = .ok (.aaload, 1) := by decide +kernel
theorem dX10_fit_30 : decode cX10_fit 30 = .ok (.astore 5, 2) := by decide +kernel
theorem dX10_fit_32 : decode cX10_fit 32 = .ok (.aload 5, 2) := by decide +kernel
theorem dX10_fit_34 : decode cX10_fit 34 = .ok (.iload_n 2, 1) := by decide +kernel
theorem dX10_fit_35 : decode cX10_fit 35 = .ok (.invokevirtual 151, 3) := by decide +kernel
theorem dX10_fit_38 : decode cX10_fit 38 = .ok (.ifCond .ne 6, 3) := by decide +kernel
theorem dX10_fit_41 : decode cX10_fit 41 = .ok (.bipush (-2), 2) := by decide +kernel
theorem dX10_fit_43 : decode cX10_fit 43 = .ok (.ireturn, 1) := by decide +kernel
theorem dX10_fit_44 : decode cX10_fit 44 = .ok (.aload_n 0, 1) := by decide +kernel
theorem dX10_fit_45 : decode cX10_fit 45 = .ok (.getfield 35, 3) := by decide +kernel
theorem dX10_fit_48 : decode cX10_fit 48 = .ok (.aload 5, 2) := by decide +kernel
theorem dX10_fit_50 : decode cX10_fit 50 = .ok (.getfield 154, 3) := by decide +kernel
theorem dX10_fit_53 : decode cX10_fit 53 = .ok (.iload_n 2, 1) := by decide +kernel
theorem dX10_fit_54 : decode cX10_fit 54 = .ok (.aaload, 1) := by decide +kernel
theorem dX10_fit_55 : decode cX10_fit 55 = .ok (.aload_n 0, 1) := by decide +kernel
theorem dX10_fit_56 : decode cX10_fit 56 = .ok (.getfield 41, 3) := by decide +kernel
theorem dX10_fit_59 : decode cX10_fit 59 = .ok (.iload_n 3, 1) := by decide +kernel
theorem dX10_fit_60 : decode cX10_fit 60 = .ok (.aaload, 1) := by decide +kernel
theorem dX10_fit_61 : decode cX10_fit 61 = .ok (.invokevirtual 188, 3) := by decide +kernel
theorem dX10_fit_64 : decode cX10_fit 64 = .ok (.ifCond .ne 6, 3) := by decide +kernel
theorem dX10_fit_67 : decode cX10_fit 67 = .ok (.bipush (-6), 2) := by decide +kernel
theorem dX10_fit_69 : decode cX10_fit 69 = .ok (.ireturn, 1) := by decide +kernel
theorem dX10_fit_70 : decode cX10_fit 70 = .ok (.iload 4, 2) := by decide +kernel
theorem dX10_fit_72 : decode cX10_fit 72 = .ok (.ifCond .ne 11, 3) := by decide +kernel
theorem dX10_fit_75 : decode cX10_fit 75 = .ok (.aload_n 0, 1) := by decide +kernel
theorem dX10_fit_76 : decode cX10_fit 76 = .ok (.getfield 35, 3) := by decide +kernel
theorem dX10_fit_79 : decode cX10_fit 79 = .ok (.getfield 192, 3) := by decide +kernel
theorem dX10_fit_82 : decode cX10_fit 82 = .ok (.ireturn, 1) := by decide +kernel
theorem dX10_fit_83 : decode cX10_fit 83 = .ok (.iload 4, 2) := by decide +kernel
theorem dX10_fit_85 : decode cX10_fit 85 = .ok (.iconst 1, 1) := by decide +kernel
theorem dX10_fit_86 : decode cX10_fit 86 = .ok (.if_icmp .ne 11, 3) := by decide +kernel
theorem dX10_fit_89 : decode cX10_fit 89 = .ok (.aload_n 0, 1) := by decide +kernel
theorem dX10_fit_90 : decode cX10_fit 90 = .ok (.getfield 35, 3) := by decide +kernel
theorem dX10_fit_93 : decode cX10_fit 93 = .ok (.getfield 195, 3) := by decide +kernel
theorem dX10_fit_96 : decode cX10_fit 96 = .ok (.ireturn, 1) := by decide +kernel
theorem dX10_fit_97 : decode cX10_fit 97 = .ok (.iload 4, 2) := by decide +kernel
theorem dX10_fit_99 : decode cX10_fit 99 = .ok (.iconst 2, 1) := by decide +kernel
theorem dX10_fit_100 : decode cX10_fit 100 = .ok (.isub, 1) := by decide +kernel
theorem dX10_fit_101 : decode cX10_fit 101 = .ok (.istore 6, 2) := by decide +kernel
theorem dX10_fit_103 : decode cX10_fit 103 = .ok (.iload 6, 2) := by decide +kernel
theorem dX10_fit_105 : decode cX10_fit 105 = .ok (.aload_n 0, 1) := by decide +kernel
theorem dX10_fit_106 : decode cX10_fit 106 = .ok (.getfield 41, 3) := by decide +kernel
theorem dX10_fit_109 : decode cX10_fit 109 = .ok (.iload_n 3, 1) := by decide +kernel
theorem dX10_fit_110 : decode cX10_fit 110 = .ok (.aaload, 1) := by decide +kernel
theorem dX10_fit_111 : decode cX10_fit 111 = .ok (.getfield 154, 3) := by decide +kernel
theorem dX10_fit_114 : decode cX10_fit 114 = .ok (.aload_n 0, 1) := by decide +kernel
theorem dX10_fit_115 : decode cX10_fit 115 = .ok (.getfield 35, 3) := by decide +kernel
theorem dX10_fit_118 : decode cX10_fit 118 = .ok (.getfield 195, 3) := by decide +kernel
theorem dX10_fit_121 : decode cX10_fit 121 = .ok (.aaload, 1) := by decide +kernel
theorem dX10_fit_122 : decode cX10_fit 122 = .ok (.getfield 164, 3) := by decide +kernel
theorem dX10_fit_125 : decode cX10_fit 125 = .ok (.if_icmp .ge 16, 3) := by decide +kernel
theorem dX10_fit_128 : decode cX10_fit 128 = .ok (.aload_n 0, 1) := by decide +kernel
theorem dX10_fit_129 : decode cX10_fit 129 = .ok (.getfield 35, 3) := by decide +kernel
theorem dX10_fit_132 : decode cX10_fit 132 = .ok (.getfield 198, 3) := by decide +kernel
theorem dX10_fit_135 : decode cX10_fit 135 = .ok (.iload 6, 2) := by decide +kernel
theorem dX10_fit_137 : decode cX10_fit 137 = .ok (.iaload, 1) := by decide +kernel
theorem dX10_fit_138 : decode cX10_fit 138 = .ok (.goto 4, 3) := by decide +kernel
theorem dX10_fit_141 : decode cX10_fit 141 = .ok (.iconst (-1), 1) := by decide +kernel
theorem dX10_fit_142 : decode cX10_fit 142 = .ok (.ireturn, 1) := by decide +kernel
theorem dX10_fits_0 : decode cX10_fits 0 = .ok (.iload_n 1, 1) := by decide +kernel
theorem dX10_fits_1 : decode cX10_fits 1 = .ok (.iload_n 2, 1) := by decide +kernel
theorem dX10_fits_2 : decode cX10_fits 2 = .ok (.invokestatic 185, 3) := by decide +kernel
theorem dX10_fits_5 : decode cX10_fits 5 = .ok (.ifCond .ne 6, 3) := by decide +kernel
theorem dX10_fits_8 : decode cX10_fits 8 = .ok (.bipush (-3), 2) := by decide +kernel
theorem dX10_fits_10 : decode cX10_fits 10 = .ok (.ireturn, 1) := by decide +kernel
theorem dX10_fits_11 : decode cX10_fits 11 = .ok (.aload_n 0, 1) := by decide +kernel
theorem dX10_fits_12 : decode cX10_fits 12 = .ok (.getfield 35, 3) := by decide +kernel
theorem dX10_fits_15 : decode cX10_fits 15 = .ok (.aload_n 0, 1) := by decide +kernel
theorem dX10_fits_16 : decode cX10_fits 16 = .ok (.getfield 41, 3) := by decide +kernel
theorem dX10_fits_19 : decode cX10_fits 19 = .ok (.bipush 10, 2) := by decide +kernel
theorem dX10_fits_21 : decode cX10_fits 21 = .ok (.iload_n 1, 1) := by decide +kernel
theorem dX10_fits_22 : decode cX10_fits 22 = .ok (.iadd, 1) := by decide +kernel
theorem dX10_fits_23 : decode cX10_fits 23 = .ok (.aaload, 1) := by decide +kernel
theorem dX10_fits_24 : decode cX10_fits 24 = .ok (.aload_n 0, 1) := by decide +kernel
theorem dX10_fits_25 : decode cX10_fits 25 = .ok (.getfield 41, 3) := by decide +kernel
theorem dX10_fits_28 : decode cX10_fits 28 = .ok (.iload_n 2, 1) := by decide +kernel
theorem dX10_fits_29 : decode cX10_fits 29 = .ok (.aaload, 1) := by decide +kernel
theorem dX10_fits_30 : decode cX10_fits 30 = .ok (.invokevirtual 201, 3) := by decide +kernel
theorem dX10_fits_33 : decode cX10_fits 33 = .ok (.ireturn, 1) := by decide +kernel
theorem dX10_gap_0 : decode cX10_gap 0 = .ok (.iload_n 1, 1) := by decide +kernel
theorem dX10_gap_1 : decode cX10_gap 1 = .ok (.iload_n 2, 1) := by decide +kernel
theorem dX10_gap_2 : decode cX10_gap 2 = .ok (.invokestatic 185, 3) := by decide +kernel
theorem dX10_gap_5 : decode cX10_gap 5 = .ok (.ifCond .ne 6, 3) := by decide +kernel
theorem dX10_gap_8 : decode cX10_gap 8 = .ok (.bipush (-3), 2) := by decide +kernel
theorem dX10_gap_10 : decode cX10_gap 10 = .ok (.ireturn, 1) := by decide +kernel
theorem dX10_gap_11 : decode cX10_gap 11 = .ok (.aload_n 0, 1) := by decide +kernel
theorem dX10_gap_12 : decode cX10_gap 12 = .ok (.getfield 35, 3) := by decide +kernel
theorem dX10_gap_15 : decode cX10_gap 15 = .ok (.aload_n 0, 1) := by decide +kernel
theorem dX10_gap_16 : decode cX10_gap 16 = .ok (.getfield 41, 3) := by decide +kernel
theorem dX10_gap_19 : decode cX10_gap 19 = .ok (.bipush 10, 2) := by decide +kernel
theorem dX10_gap_21 : decode cX10_gap 21 = .ok (.iload_n 1, 1) := by decide +kernel
theorem dX10_gap_22 : decode cX10_gap 22 = .ok (.iadd, 1) := by decide +kernel
theorem dX10_gap_23 : decode cX10_gap 23 = .ok (.aaload, 1) := by decide +kernel
theorem dX10_gap_24 : decode cX10_gap 24 = .ok (.aload_n 0, 1) := by decide +kernel
theorem dX10_gap_25 : decode cX10_gap 25 = .ok (.getfield 41, 3) := by decide +kernel
theorem dX10_gap_28 : decode cX10_gap 28 = .ok (.iload_n 2, 1) := by decide +kernel
theorem dX10_gap_29 : decode cX10_gap 29 = .ok (.aaload, 1) := by decide +kernel
theorem dX10_gap_30 : decode cX10_gap 30 = .ok (.invokevirtual 205, 3) := by decide +kernel
theorem dX10_gap_33 : decode cX10_gap 33 = .ok (.ireturn, 1) := by decide +kernel
theorem dX10_way_0 : decode cX10_way 0 = .ok (.iload_n 1, 1) := by decide +kernel
theorem dX10_way_1 : decode cX10_way 1 = .ok (.iload_n 2, 1) := by decide +kernel
theorem dX10_way_2 : decode cX10_way 2 = .ok (.invokestatic 208, 3) := by decide +kernel
theorem dX10_way_5 : decode cX10_way 5 = .ok (.ifCond .eq 7, 3) := by decide +kernel
theorem dX10_way_8 : decode cX10_way 8 = .ok (.iload_n 3, 1) := by decide +kernel
theorem dX10_way_9 : decode cX10_way 9 = .ok (.ifCond .ge 6, 3) := by decide +kernel
theorem dX10_way_12 : decode cX10_way 12 = .ok (.bipush (-3), 2) := by decide +kernel
theorem dX10_way_14 : decode cX10_way 14 = .ok (.ireturn, 1) := by decide +kernel
theorem dX10_way_15 : decode cX10_way 15 = .ok (.aload_n 0, 1) := by decide +kernel
theorem dX10_way_16 : decode cX10_way 16 = .ok (.getfield 50, 3) := by decide +kernel
theorem dX10_way_19 : decode cX10_way 19 = .ok (.iload_n 1, 1) := by decide +kernel
theorem dX10_way_20 : decode cX10_way 20 = .ok (.iload_n 2, 1) := by decide +kernel
theorem dX10_way_21 : decode cX10_way 21 = .ok (.invokevirtual 211, 3) := by decide +kernel
theorem dX10_way_24 : decode cX10_way 24 = .ok (.ifCond .ne 5, 3) := by decide +kernel
theorem dX10_way_27 : decode cX10_way 27 = .ok (.iconst (-1), 1) := by decide +kernel
theorem dX10_way_28 : decode cX10_way 28 = .ok (.ireturn, 1) := by decide +kernel
theorem dX10_way_29 : decode cX10_way 29 = .ok (.iload_n 3, 1) := by decide +kernel
theorem dX10_way_30 : decode cX10_way 30 = .ok (.ifCond .ne 11, 3) := by decide +kernel
theorem dX10_way_33 : decode cX10_way 33 = .ok (.aload_n 0, 1) := by decide +kernel
theorem dX10_way_34 : decode cX10_way 34 = .ok (.getfield 50, 3) := by decide +kernel
theorem dX10_way_37 : decode cX10_way 37 = .ok (.getfield 213, 3) := by decide +kernel
theorem dX10_way_40 : decode cX10_way 40 = .ok (.ireturn, 1) := by decide +kernel
theorem dX10_way_41 : decode cX10_way 41 = .ok (.iload_n 3, 1) := by decide +kernel
theorem dX10_way_42 : decode cX10_way 42 = .ok (.iconst 1, 1) := by decide +kernel
theorem dX10_way_43 : decode cX10_way 43 = .ok (.if_icmp .ne 11, 3) := by decide +kernel
theorem dX10_way_46 : decode cX10_way 46 = .ok (.aload_n 0, 1) := by decide +kernel
theorem dX10_way_47 : decode cX10_way 47 = .ok (.getfield 50, 3) := by decide +kernel
theorem dX10_way_50 : decode cX10_way 50 = .ok (.getfield 214, 3) := by decide +kernel
theorem dX10_way_53 : decode cX10_way 53 = .ok (.ireturn, 1) := by decide +kernel
theorem dX10_way_54 : decode cX10_way 54 = .ok (.iload_n 3, 1) := by decide +kernel
theorem dX10_way_55 : decode cX10_way 55 = .ok (.iconst 2, 1) := by decide +kernel
theorem dX10_way_56 : decode cX10_way 56 = .ok (.isub, 1) := by decide +kernel
theorem dX10_way_57 : decode cX10_way 57 = .ok (.aload_n 0, 1) := by decide +kernel
theorem dX10_way_58 : decode cX10_way 58 = .ok (.getfield 50, 3) := by decide +kernel
theorem dX10_way_61 : decode cX10_way 61 = .ok (.getfield 214, 3) := by decide +kernel
theorem dX10_way_64 : decode cX10_way 64 = .ok (.if_icmp .ge 17, 3) := by decide +kernel
theorem dX10_way_67 : decode cX10_way 67 = .ok (.aload_n 0, 1) := by decide +kernel
theorem dX10_way_68 : decode cX10_way 68 = .ok (.getfield 50, 3) := by decide +kernel
theorem dX10_way_71 : decode cX10_way 71 = .ok (.getfield 217, 3) := by decide +kernel
theorem dX10_way_74 : decode cX10_way 74 = .ok (.iload_n 3, 1) := by decide +kernel
theorem dX10_way_75 : decode cX10_way 75 = .ok (.iconst 2, 1) := by decide +kernel
theorem dX10_way_76 : decode cX10_way 76 = .ok (.isub, 1) := by decide +kernel
theorem dX10_way_77 : decode cX10_way 77 = .ok (.iaload, 1) := by decide +kernel
theorem dX10_way_78 : decode cX10_way 78 = .ok (.goto 4, 3) := by decide +kernel
theorem dX10_way_81 : decode cX10_way 81 = .ok (.iconst (-1), 1) := by decide +kernel
theorem dX10_way_82 : decode cX10_way 82 = .ok (.ireturn, 1) := by decide +kernel
theorem dX10_object_0 : decode cX10_object 0 = .ok (.iload_n 1, 1) := by decide +kernel
theorem dX10_object_1 : decode cX10_object 1 = .ok (.iconst 0, 1) := by decide +kernel
theorem dX10_object_2 : decode cX10_object 2 = .ok (.bipush 9, 2) := by decide +kernel
theorem dX10_object_4 : decode cX10_object 4 = .ok (.invokestatic 82, 3) := by decide +kernel
theorem dX10_object_7 : decode cX10_object 7 = .ok (.ifCond .ne 6, 3) := by decide +kernel
theorem dX10_object_10 : decode cX10_object 10 = .ok (.bipush (-3), 2) := by decide +kernel
theorem dX10_object_12 : decode cX10_object 12 = .ok (.ireturn, 1) := by decide +kernel
theorem dX10_object_13 : decode cX10_object 13 = .ok (.aload_n 0, 1) := by decide +kernel
theorem dX10_object_14 : decode cX10_object 14 = .ok (.getfield 57, 3) := by decide +kernel
theorem dX10_object_17 : decode cX10_object 17 = .ok (.getfield 220, 3) := by decide +kernel
theorem dX10_object_20 : decode cX10_object 20 = .ok (.bipush 20, 2) := by decide +kernel
theorem dX10_object_22 : decode cX10_object 22 = .ok (.if_icmp .lt 8, 3) := by decide +kernel
theorem dX10_object_25 : decode cX10_object 25 = .ok (.bipush (-5), 2) := by decide +kernel
theorem dX10_object_27 : decode cX10_object 27 = .ok (.goto 11, 3) := by decide +kernel
theorem dX10_object_30 : decode cX10_object 30 = .ok (.aload_n 0, 1) := by decide +kernel
theorem dX10_object_31 : decode cX10_object 31 = .ok (.getfield 57, 3) := by decide +kernel
theorem dX10_object_34 : decode cX10_object 34 = .ok (.iload_n 1, 1) := by decide +kernel
theorem dX10_object_35 : decode cX10_object 35 = .ok (.invokevirtual 221, 3) := by decide +kernel
theorem dX10_object_38 : decode cX10_object 38 = .ok (.ireturn, 1) := by decide +kernel
theorem dX10_put_0 : decode cX10_put 0 = .ok (.aload_n 0, 1) := by decide +kernel
theorem dX10_put_1 : decode cX10_put 1 = .ok (.getfield 57, 3) := by decide +kernel
theorem dX10_put_4 : decode cX10_put 4 = .ok (.iload_n 1, 1) := by decide +kernel
theorem dX10_put_5 : decode cX10_put 5 = .ok (.invokevirtual 224, 3) := by decide +kernel
theorem dX10_put_8 : decode cX10_put 8 = .ok (.ifCond .ne 6, 3) := by decide +kernel
theorem dX10_put_11 : decode cX10_put 11 = .ok (.bipush (-2), 2) := by decide +kernel
theorem dX10_put_13 : decode cX10_put 13 = .ok (.ireturn, 1) := by decide +kernel
theorem dX10_put_14 : decode cX10_put 14 = .ok (.iload_n 2, 1) := by decide +kernel
theorem dX10_put_15 : decode cX10_put 15 = .ok (.iconst 0, 1) := by decide +kernel
theorem dX10_put_16 : decode cX10_put 16 = .ok (.iconst 2, 1) := by decide +kernel
theorem dX10_put_17 : decode cX10_put 17 = .ok (.invokestatic 82, 3) := by decide +kernel
theorem dX10_put_20 : decode cX10_put 20 = .ok (.ifCond .ne 6, 3) := by decide +kernel
theorem dX10_put_23 : decode cX10_put 23 = .ok (.bipush (-3), 2) := by decide +kernel
theorem dX10_put_25 : decode cX10_put 25 = .ok (.ireturn, 1) := by decide +kernel
theorem dX10_put_26 : decode cX10_put 26 = .ok (.aload_n 0, 1) := by decide +kernel
theorem dX10_put_27 : decode cX10_put 27 = .ok (.getfield 57, 3) := by decide +kernel
theorem dX10_put_30 : decode cX10_put 30 = .ok (.getfield 225, 3) := by decide +kernel
theorem dX10_put_33 : decode cX10_put 33 = .ok (.iload_n 1, 1) := by decide +kernel
theorem dX10_put_34 : decode cX10_put 34 = .ok (.iconst 3, 1) := by decide +kernel
theorem dX10_put_35 : decode cX10_put 35 = .ok (.imul, 1) := by decide +kernel
theorem dX10_put_36 : decode cX10_put 36 = .ok (.iload_n 2, 1) := by decide +kernel
theorem dX10_put_37 : decode cX10_put 37 = .ok (.iadd, 1) := by decide +kernel
theorem dX10_put_38 : decode cX10_put 38 = .ok (.lload_n 3, 1) := by decide +kernel
theorem dX10_put_39 : decode cX10_put 39 = .ok (.lastore, 1) := by decide +kernel
theorem dX10_put_40 : decode cX10_put 40 = .ok (.iconst 0, 1) := by decide +kernel
theorem dX10_put_41 : decode cX10_put 41 = .ok (.ireturn, 1) := by decide +kernel
theorem dX10_field_0 : decode cX10_field 0 = .ok (.aload_n 0, 1) := by decide +kernel
theorem dX10_field_1 : decode cX10_field 1 = .ok (.getfield 57, 3) := by decide +kernel
theorem dX10_field_4 : decode cX10_field 4 = .ok (.iload_n 1, 1) := by decide +kernel
theorem dX10_field_5 : decode cX10_field 5 = .ok (.invokevirtual 224, 3) := by decide +kernel
theorem dX10_field_8 : decode cX10_field 8 = .ok (.ifCond .eq 12, 3) := by decide +kernel
theorem dX10_field_11 : decode cX10_field 11 = .ok (.iload_n 2, 1) := by decide +kernel
theorem dX10_field_12 : decode cX10_field 12 = .ok (.iconst 0, 1) := by decide +kernel
theorem dX10_field_13 : decode cX10_field 13 = .ok (.iconst 2, 1) := by decide +kernel
theorem dX10_field_14 : decode cX10_field 14 = .ok (.invokestatic 82, 3) := by decide +kernel
theorem dX10_field_17 : decode cX10_field 17 = .ok (.ifCond .ne 5, 3) := by decide +kernel
theorem dX10_field_20 : decode cX10_field 20 = .ok (.lconst 0, 1) := by decide +kernel
theorem dX10_field_21 : decode cX10_field 21 = .ok (.lreturn, 1) := by decide +kernel
theorem dX10_field_22 : decode cX10_field 22 = .ok (.aload_n 0, 1) := by decide +kernel
theorem dX10_field_23 : decode cX10_field 23 = .ok (.getfield 57, 3) := by decide +kernel
theorem dX10_field_26 : decode cX10_field 26 = .ok (.getfield 225, 3) := by decide +kernel
theorem dX10_field_29 : decode cX10_field 29 = .ok (.iload_n 1, 1) := by decide +kernel
theorem dX10_field_30 : decode cX10_field 30 = .ok (.iconst 3, 1) := by decide +kernel
theorem dX10_field_31 : decode cX10_field 31 = .ok (.imul, 1) := by decide +kernel
theorem dX10_field_32 : decode cX10_field 32 = .ok (.iload_n 2, 1) := by decide +kernel
theorem dX10_field_33 : decode cX10_field 33 = .ok (.iadd, 1) := by decide +kernel
theorem dX10_field_34 : decode cX10_field 34 = .ok (.laload, 1) := by decide +kernel
theorem dX10_field_35 : decode cX10_field 35 = .ok (.lreturn, 1) := by decide +kernel
theorem dX10_hand_0 : decode cX10_hand 0 = .ok (.iload_n 1, 1) := by decide +kernel
theorem dX10_hand_1 : decode cX10_hand 1 = .ok (.iconst 0, 1) := by decide +kernel
theorem dX10_hand_2 : decode cX10_hand 2 = .ok (.iconst 3, 1) := by decide +kernel
theorem dX10_hand_3 : decode cX10_hand 3 = .ok (.invokestatic 82, 3) := by decide +kernel
theorem dX10_hand_6 : decode cX10_hand 6 = .ok (.ifCond .ne 6, 3) := by decide +kernel
theorem dX10_hand_9 : decode cX10_hand 9 = .ok (.bipush (-3), 2) := by decide +kernel
theorem dX10_hand_11 : decode cX10_hand 11 = .ok (.ireturn, 1) := by decide +kernel
theorem dX10_hand_12 : decode cX10_hand 12 = .ok (.aload_n 0, 1) := by decide +kernel
theorem dX10_hand_13 : decode cX10_hand 13 = .ok (.getfield 73, 3) := by decide +kernel
theorem dX10_hand_16 : decode cX10_hand 16 = .ok (.getfield 228, 3) := by decide +kernel
theorem dX10_hand_19 : decode cX10_hand 19 = .ok (.iload_n 1, 1) := by decide +kernel
theorem dX10_hand_20 : decode cX10_hand 20 = .ok (.lload_n 2, 1) := by decide +kernel
theorem dX10_hand_21 : decode cX10_hand 21 = .ok (.lastore, 1) := by decide +kernel
theorem dX10_hand_22 : decode cX10_hand 22 = .ok (.iconst 0, 1) := by decide +kernel
theorem dX10_hand_23 : decode cX10_hand 23 = .ok (.ireturn, 1) := by decide +kernel
theorem dX10_call_0 : decode cX10_call 0 = .ok (.aload_n 0, 1) := by decide +kernel
theorem dX10_call_1 : decode cX10_call 1 = .ok (.getfield 57, 3) := by decide +kernel
theorem dX10_call_4 : decode cX10_call 4 = .ok (.iload_n 1, 1) := by decide +kernel
theorem dX10_call_5 : decode cX10_call 5 = .ok (.invokevirtual 224, 3) := by decide +kernel
theorem dX10_call_8 : decode cX10_call 8 = .ok (.ifCond .ne 6, 3) := by decide +kernel
theorem dX10_call_11 : decode cX10_call 11 = .ok (.bipush (-2), 2) := by decide +kernel
theorem dX10_call_13 : decode cX10_call 13 = .ok (.ireturn, 1) := by decide +kernel
theorem dX10_call_14 : decode cX10_call 14 = .ok (.iload_n 2, 1) := by decide +kernel
theorem dX10_call_15 : decode cX10_call 15 = .ok (.iconst 0, 1) := by decide +kernel
theorem dX10_call_16 : decode cX10_call 16 = .ok (.bipush 9, 2) := by decide +kernel
theorem dX10_call_18 : decode cX10_call 18 = .ok (.invokestatic 82, 3) := by decide +kernel
theorem dX10_call_21 : decode cX10_call 21 = .ok (.ifCond .ne 6, 3) := by decide +kernel
theorem dX10_call_24 : decode cX10_call 24 = .ok (.bipush (-3), 2) := by decide +kernel
theorem dX10_call_26 : decode cX10_call 26 = .ok (.ireturn, 1) := by decide +kernel
theorem dX10_call_27 : decode cX10_call 27 = .ok (.aload_n 0, 1) := by decide +kernel
theorem dX10_call_28 : decode cX10_call 28 = .ok (.getfield 41, 3) := by decide +kernel
theorem dX10_call_31 : decode cX10_call 31 = .ok (.bipush 10, 2) := by decide +kernel
theorem dX10_call_33 : decode cX10_call 33 = .ok (.iload_n 2, 1) := by decide +kernel
theorem dX10_call_34 : decode cX10_call 34 = .ok (.iadd, 1) := by decide +kernel
theorem dX10_call_35 : decode cX10_call 35 = .ok (.aaload, 1) := by decide +kernel
theorem dX10_call_36 : decode cX10_call 36 = .ok (.iload_n 3, 1) := by decide +kernel
theorem dX10_call_37 : decode cX10_call 37 = .ok (.invokevirtual 151, 3) := by decide +kernel
theorem dX10_call_40 : decode cX10_call 40 = .ok (.ifCond .ne 6, 3) := by decide +kernel
theorem dX10_call_43 : decode cX10_call 43 = .ok (.bipush (-2), 2) := by decide +kernel
theorem dX10_call_45 : decode cX10_call 45 = .ok (.ireturn, 1) := by decide +kernel
theorem dX10_call_46 : decode cX10_call 46 = .ok (.aload_n 0, 1) := by decide +kernel
theorem dX10_call_47 : decode cX10_call 47 = .ok (.getfield 73, 3) := by decide +kernel
theorem dX10_call_50 : decode cX10_call 50 = .ok (.aload_n 0, 1) := by decide +kernel
theorem dX10_call_51 : decode cX10_call 51 = .ok (.getfield 41, 3) := by decide +kernel
theorem dX10_call_54 : decode cX10_call 54 = .ok (.bipush 10, 2) := by decide +kernel
theorem dX10_call_56 : decode cX10_call 56 = .ok (.iload_n 2, 1) := by decide +kernel
theorem dX10_call_57 : decode cX10_call 57 = .ok (.iadd, 1) := by decide +kernel
theorem dX10_call_58 : decode cX10_call 58 = .ok (.aaload, 1) := by decide +kernel
theorem dX10_call_59 : decode cX10_call 59 = .ok (.getfield 154, 3) := by decide +kernel
theorem dX10_call_62 : decode cX10_call 62 = .ok (.iload_n 3, 1) := by decide +kernel
theorem dX10_call_63 : decode cX10_call 63 = .ok (.aaload, 1) := by decide +kernel
theorem dX10_call_64 : decode cX10_call 64 = .ok (.invokevirtual 231, 3) := by decide +kernel
theorem dX10_call_67 : decode cX10_call 67 = .ok (.aload_n 0, 1) := by decide +kernel
theorem dX10_call_68 : decode cX10_call 68 = .ok (.iload_n 1, 1) := by decide +kernel
theorem dX10_call_69 : decode cX10_call 69 = .ok (.invokevirtual 235, 3) := by decide +kernel
theorem dX10_call_72 : decode cX10_call 72 = .ok (.ireturn, 1) := by decide +kernel
theorem dX10_through_0 : decode cX10_through 0 = .ok (.aload_n 0, 1) := by decide +kernel
theorem dX10_through_1 : decode cX10_through 1 = .ok (.getfield 57, 3) := by decide +kernel
theorem dX10_through_4 : decode cX10_through 4 = .ok (.iload_n 1, 1) := by decide +kernel
theorem dX10_through_5 : decode cX10_through 5 = .ok (.invokevirtual 224, 3) := by decide +kernel
theorem dX10_through_8 : decode cX10_through 8 = .ok (.ifCond .ne 6, 3) := by decide +kernel
theorem dX10_through_11 : decode cX10_through 11 = .ok (.bipush (-2), 2) := by decide +kernel
theorem dX10_through_13 : decode cX10_through 13 = .ok (.ireturn, 1) := by decide +kernel
theorem dX10_through_14 : decode cX10_through 14 = .ok (.iload_n 2, 1) := by decide +kernel
theorem dX10_through_15 : decode cX10_through 15 = .ok (.iload_n 3, 1) := by decide +kernel
theorem dX10_through_16 : decode cX10_through 16 = .ok (.invokestatic 208, 3) := by decide +kernel
theorem dX10_through_19 : decode cX10_through 19 = .ok (.ifCond .ne 6, 3) := by decide +kernel
theorem dX10_through_22 : decode cX10_through 22 = .ok (.bipush (-3), 2) := by decide +kernel
theorem dX10_through_24 : decode cX10_through 24 = .ok (.ireturn, 1) := by decide +kernel
theorem dX10_through_25 : decode cX10_through 25 = .ok (.aload_n 0, 1) := by decide +kernel
theorem dX10_through_26 : decode cX10_through 26 = .ok (.getfield 50, 3) := by decide +kernel
theorem dX10_through_29 : decode cX10_through 29 = .ok (.iload_n 2, 1) := by decide +kernel
theorem dX10_through_30 : decode cX10_through 30 = .ok (.iload_n 3, 1) := by decide +kernel
theorem dX10_through_31 : decode cX10_through 31 = .ok (.invokevirtual 211, 3) := by decide +kernel
theorem dX10_through_34 : decode cX10_through 34 = .ok (.ifCond .ne 5, 3) := by decide +kernel
theorem dX10_through_37 : decode cX10_through 37 = .ok (.iconst (-1), 1) := by decide +kernel
theorem dX10_through_38 : decode cX10_through 38 = .ok (.ireturn, 1) := by decide +kernel
theorem dX10_through_39 : decode cX10_through 39 = .ok (.aload_n 0, 1) := by decide +kernel
theorem dX10_through_40 : decode cX10_through 40 = .ok (.getfield 41, 3) := by decide +kernel
theorem dX10_through_43 : decode cX10_through 43 = .ok (.bipush 10, 2) := by decide +kernel
theorem dX10_through_45 : decode cX10_through 45 = .ok (.iload_n 3, 1) := by decide +kernel
theorem dX10_through_46 : decode cX10_through 46 = .ok (.iadd, 1) := by decide +kernel
theorem dX10_through_47 : decode cX10_through 47 = .ok (.aaload, 1) := by decide +kernel
theorem dX10_through_48 : decode cX10_through 48 = .ok (.iload 4, 2) := by decide +kernel
theorem dX10_through_50 : decode cX10_through 50 = .ok (.invokevirtual 151, 3) := by decide +kernel
theorem dX10_through_53 : decode cX10_through 53 = .ok (.ifCond .ne 6, 3) := by decide +kernel
theorem dX10_through_56 : decode cX10_through 56 = .ok (.bipush (-2), 2) := by decide +kernel
theorem dX10_through_58 : decode cX10_through 58 = .ok (.ireturn, 1) := by decide +kernel
theorem dX10_through_59 : decode cX10_through 59 = .ok (.aload_n 0, 1) := by decide +kernel
theorem dX10_through_60 : decode cX10_through 60 = .ok (.getfield 73, 3) := by decide +kernel
theorem dX10_through_63 : decode cX10_through 63 = .ok (.aload_n 0, 1) := by decide +kernel
theorem dX10_through_64 : decode cX10_through 64 = .ok (.getfield 41, 3) := by decide +kernel
theorem dX10_through_67 : decode cX10_through 67 = .ok (.bipush 10, 2) := by decide +kernel
theorem dX10_through_69 : decode cX10_through 69 = .ok (.iload_n 3, 1) := by decide +kernel
theorem dX10_through_70 : decode cX10_through 70 = .ok (.iadd, 1) := by decide +kernel
theorem dX10_through_71 : decode cX10_through 71 = .ok (.aaload, 1) := by decide +kernel
theorem dX10_through_72 : decode cX10_through 72 = .ok (.getfield 154, 3) := by decide +kernel
theorem dX10_through_75 : decode cX10_through 75 = .ok (.iload 4, 2) := by decide +kernel
theorem dX10_through_77 : decode cX10_through 77 = .ok (.aaload, 1) := by decide +kernel
theorem dX10_through_78 : decode cX10_through 78 = .ok (.invokevirtual 231, 3) := by decide +kernel
theorem dX10_through_81 : decode cX10_through 81 = .ok (.aload_n 0, 1) := by decide +kernel
theorem dX10_through_82 : decode cX10_through 82 = .ok (.getfield 50, 3) := by decide +kernel
theorem dX10_through_85 : decode cX10_through 85 = .ok (.getfield 214, 3) := by decide +kernel
theorem dX10_through_88 : decode cX10_through 88 = .ok (.iconst 2, 1) := by decide +kernel
theorem dX10_through_89 : decode cX10_through 89 = .ok (.isub, 1) := by decide +kernel
theorem dX10_through_90 : decode cX10_through 90 = .ok (.istore 5, 2) := by decide +kernel
theorem dX10_through_92 : decode cX10_through 92 = .ok (.iload 5, 2) := by decide +kernel
theorem dX10_through_94 : decode cX10_through 94 = .ok (.ifCond .lt 40, 3) := by decide +kernel
theorem dX10_through_97 : decode cX10_through 97 = .ok (.aload_n 0, 1) := by decide +kernel
theorem dX10_through_98 : decode cX10_through 98 = .ok (.getfield 73, 3) := by decide +kernel
theorem dX10_through_101 : decode cX10_through 101 = .ok (.aload_n 0, 1) := by decide +kernel
theorem dX10_through_102 : decode cX10_through 102 = .ok (.getfield 41, 3) := by decide +kernel
theorem dX10_through_105 : decode cX10_through 105 = .ok (.bipush 10, 2) := by decide +kernel
theorem dX10_through_107 : decode cX10_through 107 = .ok (.aload_n 0, 1) := by decide +kernel
theorem dX10_through_108 : decode cX10_through 108 = .ok (.getfield 50, 3) := by decide +kernel
theorem dX10_through_111 : decode cX10_through 111 = .ok (.getfield 217, 3) := by decide +kernel
theorem dX10_through_114 : decode cX10_through 114 = .ok (.iload 5, 2) := by decide +kernel
theorem dX10_through_116 : decode cX10_through 116 = .ok (.iaload, 1) := by decide +kernel
theorem dX10_through_117 : decode cX10_through 117 = .ok (.iadd, 1) := by decide +kernel
theorem dX10_through_118 : decode cX10_through 118 = .ok (.aaload, 1) := by decide +kernel
theorem dX10_through_119 : decode cX10_through 119 = .ok (.invokevirtual 238, 3) := by decide +kernel
theorem dX10_through_122 : decode cX10_through 122 = .ok (.ifCond .ne 6, 3) := by decide +kernel
theorem dX10_through_125 : decode cX10_through 125 = .ok (.bipush (-6), 2) := by decide +kernel
theorem dX10_through_127 : decode cX10_through 127 = .ok (.ireturn, 1) := by decide +kernel
theorem dX10_through_128 : decode cX10_through 128 = .ok (.iinc 5 (-1), 3) := by decide +kernel
theorem dX10_through_131 : decode cX10_through 131 = .ok (.goto (-39), 3) := by decide +kernel
theorem dX10_through_134 : decode cX10_through 134 = .ok (.aload_n 0, 1) := by decide +kernel
theorem dX10_through_135 : decode cX10_through 135 = .ok (.iload_n 1, 1) := by decide +kernel
theorem dX10_through_136 : decode cX10_through 136 = .ok (.invokevirtual 235, 3) := by decide +kernel
theorem dX10_through_139 : decode cX10_through 139 = .ok (.ireturn, 1) := by decide +kernel
theorem dX10_value_0 : decode cX10_value 0 = .ok (.aload_n 0, 1) := by decide +kernel
theorem dX10_value_1 : decode cX10_value 1 = .ok (.getfield 64, 3) := by decide +kernel
theorem dX10_value_4 : decode cX10_value 4 = .ok (.getfield 135, 3) := by decide +kernel
theorem dX10_value_7 : decode cX10_value 7 = .ok (.lreturn, 1) := by decide +kernel
theorem dX10_failed_0 : decode cX10_failed 0 = .ok (.aload_n 0, 1) := by decide +kernel
theorem dX10_failed_1 : decode cX10_failed 1 = .ok (.getfield 64, 3) := by decide +kernel
theorem dX10_failed_4 : decode cX10_failed 4 = .ok (.getfield 242, 3) := by decide +kernel
theorem dX10_failed_7 : decode cX10_failed 7 = .ok (.iconst (-1), 1) := by decide +kernel
theorem dX10_failed_8 : decode cX10_failed 8 = .ok (.if_icmp .ne 5, 3) := by decide +kernel
theorem dX10_failed_11 : decode cX10_failed 11 = .ok (.iconst (-1), 1) := by decide +kernel
theorem dX10_failed_12 : decode cX10_failed 12 = .ok (.ireturn, 1) := by decide +kernel
theorem dX10_failed_13 : decode cX10_failed 13 = .ok (.iload_n 1, 1) := by decide +kernel
theorem dX10_failed_14 : decode cX10_failed 14 = .ok (.iconst 0, 1) := by decide +kernel
theorem dX10_failed_15 : decode cX10_failed 15 = .ok (.iconst 1, 1) := by decide +kernel
theorem dX10_failed_16 : decode cX10_failed 16 = .ok (.invokestatic 82, 3) := by decide +kernel
theorem dX10_failed_19 : decode cX10_failed 19 = .ok (.ifCond .ne 6, 3) := by decide +kernel
theorem dX10_failed_22 : decode cX10_failed 22 = .ok (.bipush (-3), 2) := by decide +kernel
theorem dX10_failed_24 : decode cX10_failed 24 = .ok (.ireturn, 1) := by decide +kernel
theorem dX10_failed_25 : decode cX10_failed 25 = .ok (.iload_n 1, 1) := by decide +kernel
theorem dX10_failed_26 : decode cX10_failed 26 = .ok (.ifCond .ne 13, 3) := by decide +kernel
theorem dX10_failed_29 : decode cX10_failed 29 = .ok (.aload_n 0, 1) := by decide +kernel
theorem dX10_failed_30 : decode cX10_failed 30 = .ok (.getfield 64, 3) := by decide +kernel
theorem dX10_failed_33 : decode cX10_failed 33 = .ok (.getfield 242, 3) := by decide +kernel
theorem dX10_failed_36 : decode cX10_failed 36 = .ok (.goto 10, 3) := by decide +kernel
theorem dX10_failed_39 : decode cX10_failed 39 = .ok (.aload_n 0, 1) := by decide +kernel
theorem dX10_failed_40 : decode cX10_failed 40 = .ok (.getfield 64, 3) := by decide +kernel
theorem dX10_failed_43 : decode cX10_failed 43 = .ok (.getfield 245, 3) := by decide +kernel
theorem dX10_failed_46 : decode cX10_failed 46 = .ok (.ireturn, 1) := by decide +kernel
theorem dX10_count_0 : decode cX10_count 0 = .ok (.iload_n 1, 1) := by decide +kernel
theorem dX10_count_1 : decode cX10_count 1 = .ok (.tableswitch 112 0 7 #[47, 55, 63, 71, 79, 88, 96, 104], 47) := by decide +kernel
theorem dX10_count_48 : decode cX10_count 48 = .ok (.aload_n 0, 1) := by decide +kernel
theorem dX10_count_49 : decode cX10_count 49 = .ok (.getfield 12, 3) := by decide +kernel
theorem dX10_count_52 : decode cX10_count 52 = .ok (.getfield 248, 3) := by decide +kernel
theorem dX10_count_55 : decode cX10_count 55 = .ok (.ireturn, 1) := by decide +kernel
theorem dX10_count_56 : decode cX10_count 56 = .ok (.aload_n 0, 1) := by decide +kernel
theorem dX10_count_57 : decode cX10_count 57 = .ok (.getfield 57, 3) := by decide +kernel
theorem dX10_count_60 : decode cX10_count 60 = .ok (.getfield 220, 3) := by decide +kernel
theorem dX10_count_63 : decode cX10_count 63 = .ok (.ireturn, 1) := by decide +kernel
theorem dX10_count_64 : decode cX10_count 64 = .ok (.aload_n 0, 1) := by decide +kernel
theorem dX10_count_65 : decode cX10_count 65 = .ok (.getfield 19, 3) := by decide +kernel
theorem dX10_count_68 : decode cX10_count 68 = .ok (.getfield 251, 3) := by decide +kernel
theorem dX10_count_71 : decode cX10_count 71 = .ok (.ireturn, 1) := by decide +kernel
theorem dX10_count_72 : decode cX10_count 72 = .ok (.aload_n 0, 1) := by decide +kernel
theorem dX10_count_73 : decode cX10_count 73 = .ok (.getfield 26, 3) := by decide +kernel
theorem dX10_count_76 : decode cX10_count 76 = .ok (.invokevirtual 252, 3) := by decide +kernel
theorem dX10_count_79 : decode cX10_count 79 = .ok (.ireturn, 1) := by decide +kernel
theorem dX10_count_80 : decode cX10_count 80 = .ok (.aload_n 0, 1) := by decide +kernel
theorem dX10_count_81 : decode cX10_count 81 = .ok (.bipush 10, 2) := by decide +kernel
theorem dX10_count_83 : decode cX10_count 83 = .ok (.bipush 20, 2) := by decide +kernel
theorem dX10_count_85 : decode cX10_count 85 = .ok (.invokevirtual 255, 3) := by decide +kernel
theorem dX10_count_88 : decode cX10_count 88 = .ok (.ireturn, 1) := by decide +kernel
theorem dX10_count_89 : decode cX10_count 89 = .ok (.aload_n 0, 1) := by decide +kernel
theorem dX10_count_90 : decode cX10_count 90 = .ok (.iconst 0, 1) := by decide +kernel
theorem dX10_count_91 : decode cX10_count 91 = .ok (.bipush 10, 2) := by decide +kernel
theorem dX10_count_93 : decode cX10_count 93 = .ok (.invokevirtual 255, 3) := by decide +kernel
theorem dX10_count_96 : decode cX10_count 96 = .ok (.ireturn, 1) := by decide +kernel
theorem dX10_count_97 : decode cX10_count 97 = .ok (.aload_n 0, 1) := by decide +kernel
theorem dX10_count_98 : decode cX10_count 98 = .ok (.getfield 64, 3) := by decide +kernel
theorem dX10_count_101 : decode cX10_count 101 = .ok (.getfield 258, 3) := by decide +kernel
theorem dX10_count_104 : decode cX10_count 104 = .ok (.ireturn, 1) := by decide +kernel
theorem dX10_count_105 : decode cX10_count 105 = .ok (.aload_n 0, 1) := by decide +kernel
theorem dX10_count_106 : decode cX10_count 106 = .ok (.getfield 64, 3) := by decide +kernel
theorem dX10_count_109 : decode cX10_count 109 = .ok (.getfield 261, 3) := by decide +kernel
theorem dX10_count_112 : decode cX10_count 112 = .ok (.ireturn, 1) := by decide +kernel
theorem dX10_count_113 : decode cX10_count 113 = .ok (.bipush (-3), 2) := by decide +kernel
theorem dX10_count_115 : decode cX10_count 115 = .ok (.ireturn, 1) := by decide +kernel
theorem dX10_finish_0 : decode cX10_finish 0 = .ok (.aload_n 0, 1) := by decide +kernel
theorem dX10_finish_1 : decode cX10_finish 1 = .ok (.getfield 73, 3) := by decide +kernel
theorem dX10_finish_4 : decode cX10_finish 4 = .ok (.aload_n 0, 1) := by decide +kernel
theorem dX10_finish_5 : decode cX10_finish 5 = .ok (.getfield 41, 3) := by decide +kernel
theorem dX10_finish_8 : decode cX10_finish 8 = .ok (.aload_n 0, 1) := by decide +kernel
theorem dX10_finish_9 : decode cX10_finish 9 = .ok (.getfield 57, 3) := by decide +kernel
theorem dX10_finish_12 : decode cX10_finish 12 = .ok (.getfield 264, 3) := by decide +kernel
theorem dX10_finish_15 : decode cX10_finish 15 = .ok (.iload_n 1, 1) := by decide +kernel
theorem dX10_finish_16 : decode cX10_finish 16 = .ok (.iaload, 1) := by decide +kernel
theorem dX10_finish_17 : decode cX10_finish 17 = .ok (.aaload, 1) := by decide +kernel
theorem dX10_finish_18 : decode cX10_finish 18 = .ok (.invokevirtual 238, 3) := by decide +kernel
theorem dX10_finish_21 : decode cX10_finish 21 = .ok (.ifCond .ne 6, 3) := by decide +kernel
theorem dX10_finish_24 : decode cX10_finish 24 = .ok (.bipush (-6), 2) := by decide +kernel
theorem dX10_finish_26 : decode cX10_finish 26 = .ok (.ireturn, 1) := by decide +kernel
theorem dX10_finish_27 : decode cX10_finish 27 = .ok (.aload_n 0, 1) := by decide +kernel
theorem dX10_finish_28 : decode cX10_finish 28 = .ok (.getfield 73, 3) := by decide +kernel
theorem dX10_finish_31 : decode cX10_finish 31 = .ok (.aload_n 0, 1) := by decide +kernel
theorem dX10_finish_32 : decode cX10_finish 32 = .ok (.getfield 57, 3) := by decide +kernel
theorem dX10_finish_35 : decode cX10_finish 35 = .ok (.getfield 225, 3) := by decide +kernel
theorem dX10_finish_38 : decode cX10_finish 38 = .ok (.iload_n 1, 1) := by decide +kernel
theorem dX10_finish_39 : decode cX10_finish 39 = .ok (.iconst 3, 1) := by decide +kernel
theorem dX10_finish_40 : decode cX10_finish 40 = .ok (.imul, 1) := by decide +kernel
theorem dX10_finish_41 : decode cX10_finish 41 = .ok (.invokevirtual 267, 3) := by decide +kernel
theorem dX10_finish_44 : decode cX10_finish 44 = .ok (.ifCond .eq 7, 3) := by decide +kernel
theorem dX10_finish_47 : decode cX10_finish 47 = .ok (.iconst 0, 1) := by decide +kernel
theorem dX10_finish_48 : decode cX10_finish 48 = .ok (.goto 5, 3) := by decide +kernel
theorem dX10_finish_51 : decode cX10_finish 51 = .ok (.bipush (-7), 2) := by decide +kernel
theorem dX10_finish_53 : decode cX10_finish 53 = .ok (.ireturn, 1) := by decide +kernel
theorem dX10_membersOf_0 : decode cX10_membersOf 0 = .ok (.iconst 0, 1) := by decide +kernel
theorem dX10_membersOf_1 : decode cX10_membersOf 1 = .ok (.istore_n 3, 1) := by decide +kernel
theorem dX10_membersOf_2 : decode cX10_membersOf 2 = .ok (.iload_n 1, 1) := by decide +kernel
theorem dX10_membersOf_3 : decode cX10_membersOf 3 = .ok (.istore 4, 2) := by decide +kernel
theorem dX10_membersOf_5 : decode cX10_membersOf 5 = .ok (.iload 4, 2) := by decide +kernel
theorem dX10_membersOf_7 : decode cX10_membersOf 7 = .ok (.iload_n 2, 1) := by decide +kernel
theorem dX10_membersOf_8 : decode cX10_membersOf 8 = .ok (.if_icmp .ge 22, 3) := by decide +kernel
theorem dX10_membersOf_11 : decode cX10_membersOf 11 = .ok (.iload_n 3, 1) := by decide +kernel
theorem dX10_membersOf_12 : decode cX10_membersOf 12 = .ok (.aload_n 0, 1) := by decide +kernel
theorem dX10_membersOf_13 : decode cX10_membersOf 13 = .ok (.getfield 41, 3) := by decide +kernel
theorem dX10_membersOf_16 : decode cX10_membersOf 16 = .ok (.iload 4, 2) := by decide +kernel
theorem dX10_membersOf_18 : decode cX10_membersOf 18 = .ok (.aaload, 1) := by decide +kernel
theorem dX10_membersOf_19 : decode cX10_membersOf 19 = .ok (.getfield 142, 3) := by decide +kernel
theorem dX10_membersOf_22 : decode cX10_membersOf 22 = .ok (.iadd, 1) := by decide +kernel
theorem dX10_membersOf_23 : decode cX10_membersOf 23 = .ok (.istore_n 3, 1) := by decide +kernel
theorem dX10_membersOf_24 : decode cX10_membersOf 24 = .ok (.iinc 4 1, 3) := by decide +kernel
theorem dX10_membersOf_27 : decode cX10_membersOf 27 = .ok (.goto (-22), 3) := by decide +kernel
theorem dX10_membersOf_30 : decode cX10_membersOf 30 = .ok (.iload_n 3, 1) := by decide +kernel
theorem dX10_membersOf_31 : decode cX10_membersOf 31 = .ok (.ireturn, 1) := by decide +kernel
theorem dX10_isWithin_0 : decode cX10_isWithin 0 = .ok (.iload_n 0, 1) := by decide +kernel
theorem dX10_isWithin_1 : decode cX10_isWithin 1 = .ok (.iload_n 1, 1) := by decide +kernel
theorem dX10_isWithin_2 : decode cX10_isWithin 2 = .ok (.if_icmp .lt 12, 3) := by decide +kernel
theorem dX10_isWithin_5 : decode cX10_isWithin 5 = .ok (.iload_n 0, 1) := by decide +kernel
theorem dX10_isWithin_6 : decode cX10_isWithin 6 = .ok (.iload_n 2, 1) := by decide +kernel
theorem dX10_isWithin_7 : decode cX10_isWithin 7 = .ok (.if_icmp .gt 7, 3) := by decide +kernel
theorem dX10_isWithin_10 : decode cX10_isWithin 10 = .ok (.iconst 1, 1) := by decide +kernel
theorem dX10_isWithin_11 : decode cX10_isWithin 11 = .ok (.goto 4, 3) := by decide +kernel
theorem dX10_isWithin_14 : decode cX10_isWithin 14 = .ok (.iconst 0, 1) := by decide +kernel
theorem dX10_isWithin_15 : decode cX10_isWithin 15 = .ok (.ireturn, 1) := by decide +kernel
theorem dX10_isSort_0 : decode cX10_isSort 0 = .ok (.iload_n 0, 1) := by decide +kernel
theorem dX10_isSort_1 : decode cX10_isSort 1 = .ok (.iconst 0, 1) := by decide +kernel
theorem dX10_isSort_2 : decode cX10_isSort 2 = .ok (.bipush 6, 2) := by decide +kernel
theorem dX10_isSort_4 : decode cX10_isSort 4 = .ok (.invokestatic 82, 3) := by decide +kernel
theorem dX10_isSort_7 : decode cX10_isSort 7 = .ok (.ireturn, 1) := by decide +kernel
theorem dX10_isName_0 : decode cX10_isName 0 = .ok (.iload_n 0, 1) := by decide +kernel
theorem dX10_isName_1 : decode cX10_isName 1 = .ok (.iconst 0, 1) := by decide +kernel
theorem dX10_isName_2 : decode cX10_isName 2 = .ok (.bipush 99, 2) := by decide +kernel
theorem dX10_isName_4 : decode cX10_isName 4 = .ok (.invokestatic 82, 3) := by decide +kernel
theorem dX10_isName_7 : decode cX10_isName 7 = .ok (.ireturn, 1) := by decide +kernel
theorem dX10_areFaces_0 : decode cX10_areFaces 0 = .ok (.iload_n 0, 1) := by decide +kernel
theorem dX10_areFaces_1 : decode cX10_areFaces 1 = .ok (.iconst 0, 1) := by decide +kernel
theorem dX10_areFaces_2 : decode cX10_areFaces 2 = .ok (.bipush 9, 2) := by decide +kernel
theorem dX10_areFaces_4 : decode cX10_areFaces 4 = .ok (.invokestatic 82, 3) := by decide +kernel
theorem dX10_areFaces_7 : decode cX10_areFaces 7 = .ok (.ifCond .eq 17, 3) := by decide +kernel
theorem dX10_areFaces_10 : decode cX10_areFaces 10 = .ok (.iload_n 1, 1) := by decide +kernel
theorem dX10_areFaces_11 : decode cX10_areFaces 11 = .ok (.iconst 0, 1) := by decide +kernel
theorem dX10_areFaces_12 : decode cX10_areFaces 12 = .ok (.bipush 9, 2) := by decide +kernel
theorem dX10_areFaces_14 : decode cX10_areFaces 14 = .ok (.invokestatic 82, 3) := by decide +kernel
theorem dX10_areFaces_17 : decode cX10_areFaces 17 = .ok (.ifCond .eq 7, 3) := by decide +kernel
theorem dX10_areFaces_20 : decode cX10_areFaces 20 = .ok (.iconst 1, 1) := by decide +kernel
theorem dX10_areFaces_21 : decode cX10_areFaces 21 = .ok (.goto 4, 3) := by decide +kernel
theorem dX10_areFaces_24 : decode cX10_areFaces 24 = .ok (.iconst 0, 1) := by decide +kernel
theorem dX10_areFaces_25 : decode cX10_areFaces 25 = .ok (.ireturn, 1) := by decide +kernel
theorem dX10_areFaceAndShape_0 : decode cX10_areFaceAndShape 0 = .ok (.iload_n 0, 1) := by decide +kernel
theorem dX10_areFaceAndShape_1 : decode cX10_areFaceAndShape 1 = .ok (.iconst 0, 1) := by decide +kernel
theorem dX10_areFaceAndShape_2 : decode cX10_areFaceAndShape 2 = .ok (.bipush 9, 2) := by decide +kernel
theorem dX10_areFaceAndShape_4 : decode cX10_areFaceAndShape 4 = .ok (.invokestatic 82, 3) := by decide +kernel
theorem dX10_areFaceAndShape_7 : decode cX10_areFaceAndShape 7 = .ok (.ifCond .eq 17, 3) := by decide +kernel
theorem dX10_areFaceAndShape_10 : decode cX10_areFaceAndShape 10 = .ok (.iload_n 1, 1) := by decide +kernel
theorem dX10_areFaceAndShape_11 : decode cX10_areFaceAndShape 11 = .ok (.iconst 0, 1) := by decide +kernel
theorem dX10_areFaceAndShape_12 : decode cX10_areFaceAndShape 12 = .ok (.bipush 19, 2) := by decide +kernel
theorem dX10_areFaceAndShape_14 : decode cX10_areFaceAndShape 14 = .ok (.invokestatic 82, 3) := by decide +kernel
theorem dX10_areFaceAndShape_17 : decode cX10_areFaceAndShape 17 = .ok (.ifCond .eq 7, 3) := by decide +kernel
theorem dX10_areFaceAndShape_20 : decode cX10_areFaceAndShape 20 = .ok (.iconst 1, 1) := by decide +kernel
theorem dX10_areFaceAndShape_21 : decode cX10_areFaceAndShape 21 = .ok (.goto 4, 3) := by decide +kernel
theorem dX10_areFaceAndShape_24 : decode cX10_areFaceAndShape 24 = .ok (.iconst 0, 1) := by decide +kernel
theorem dX10_areFaceAndShape_25 : decode cX10_areFaceAndShape 25 = .ok (.ireturn, 1) := by decide +kernel
theorem dX10_areSorts_0 : decode cX10_areSorts 0 = .ok (.iload_n 0, 1) := by decide +kernel
theorem dX10_areSorts_1 : decode cX10_areSorts 1 = .ok (.ifCond .lt 12, 3) := by decide +kernel
theorem dX10_areSorts_4 : decode cX10_areSorts 4 = .ok (.iload_n 0, 1) := by decide +kernel
theorem dX10_areSorts_5 : decode cX10_areSorts 5 = .ok (.bipush 7, 2) := by decide +kernel
theorem dX10_areSorts_7 : decode cX10_areSorts 7 = .ok (.iand, 1) := by decide +kernel
theorem dX10_areSorts_8 : decode cX10_areSorts 8 = .ok (.bipush 7, 2) := by decide +kernel
theorem dX10_areSorts_10 : decode cX10_areSorts 10 = .ok (.if_icmp .lt 5, 3) := by decide +kernel
theorem dX10_areSorts_13 : decode cX10_areSorts 13 = .ok (.iconst 0, 1) := by decide +kernel
theorem dX10_areSorts_14 : decode cX10_areSorts 14 = .ok (.ireturn, 1) := by decide +kernel
theorem dX10_areSorts_15 : decode cX10_areSorts 15 = .ok (.iload_n 0, 1) := by decide +kernel
theorem dX10_areSorts_16 : decode cX10_areSorts 16 = .ok (.iconst 3, 1) := by decide +kernel
theorem dX10_areSorts_17 : decode cX10_areSorts 17 = .ok (.ishr, 1) := by decide +kernel
theorem dX10_areSorts_18 : decode cX10_areSorts 18 = .ok (.istore_n 1, 1) := by decide +kernel
theorem dX10_areSorts_19 : decode cX10_areSorts 19 = .ok (.iconst 0, 1) := by decide +kernel
theorem dX10_areSorts_20 : decode cX10_areSorts 20 = .ok (.istore_n 2, 1) := by decide +kernel
theorem dX10_areSorts_21 : decode cX10_areSorts 21 = .ok (.iload_n 2, 1) := by decide +kernel
theorem dX10_areSorts_22 : decode cX10_areSorts 22 = .ok (.iconst 4, 1) := by decide +kernel
theorem dX10_areSorts_23 : decode cX10_areSorts 23 = .ok (.if_icmp .ge 20, 3) := by decide +kernel
theorem dX10_areSorts_26 : decode cX10_areSorts 26 = .ok (.iload_n 1, 1) := by decide +kernel
theorem dX10_areSorts_27 : decode cX10_areSorts 27 = .ok (.bipush 7, 2) := by decide +kernel
theorem dX10_areSorts_29 : decode cX10_areSorts 29 = .ok (.iand, 1) := by decide +kernel
theorem dX10_areSorts_30 : decode cX10_areSorts 30 = .ok (.ifCond .eq 13, 3) := by decide +kernel
theorem dX10_areSorts_33 : decode cX10_areSorts 33 = .ok (.iload_n 1, 1) := by decide +kernel
theorem dX10_areSorts_34 : decode cX10_areSorts 34 = .ok (.iconst 3, 1) := by decide +kernel
theorem dX10_areSorts_35 : decode cX10_areSorts 35 = .ok (.ishr, 1) := by decide +kernel
theorem dX10_areSorts_36 : decode cX10_areSorts 36 = .ok (.istore_n 1, 1) := by decide +kernel
theorem dX10_areSorts_37 : decode cX10_areSorts 37 = .ok (.iinc 2 1, 3) := by decide +kernel
theorem dX10_areSorts_40 : decode cX10_areSorts 40 = .ok (.goto (-19), 3) := by decide +kernel
theorem dX10_areSorts_43 : decode cX10_areSorts 43 = .ok (.iload_n 1, 1) := by decide +kernel
theorem dX10_areSorts_44 : decode cX10_areSorts 44 = .ok (.ifCond .ne 7, 3) := by decide +kernel
theorem dX10_areSorts_47 : decode cX10_areSorts 47 = .ok (.iconst 1, 1) := by decide +kernel
theorem dX10_areSorts_48 : decode cX10_areSorts 48 = .ok (.goto 4, 3) := by decide +kernel
theorem dX10_areSorts_51 : decode cX10_areSorts 51 = .ok (.iconst 0, 1) := by decide +kernel
theorem dX10_areSorts_52 : decode cX10_areSorts 52 = .ok (.ireturn, 1) := by decide +kernel
theorem dX10_isOf_0 : decode cX10_isOf 0 = .ok (.iload_n 0, 1) := by decide +kernel
theorem dX10_isOf_1 : decode cX10_isOf 1 = .ok (.tableswitch 147 0 6 #[43, 65, 87, 147, 109, 147, 127], 43) := by decide +kernel
theorem dX10_isOf_44 : decode cX10_isOf 44 = .ok (.lload_n 1, 1) := by decide +kernel
theorem dX10_isOf_45 : decode cX10_isOf 45 = .ok (.ldc2_w 271, 3) := by decide +kernel
theorem dX10_isOf_48 : decode cX10_isOf 48 = .ok (.lcmp, 1) := by decide +kernel
theorem dX10_isOf_49 : decode cX10_isOf 49 = .ok (.ifCond .lt 15, 3) := by decide +kernel
theorem dX10_isOf_52 : decode cX10_isOf 52 = .ok (.lload_n 1, 1) := by decide +kernel
theorem dX10_isOf_53 : decode cX10_isOf 53 = .ok (.ldc2_w 273, 3) := by decide +kernel
theorem dX10_isOf_56 : decode cX10_isOf 56 = .ok (.lcmp, 1) := by decide +kernel
theorem dX10_isOf_57 : decode cX10_isOf 57 = .ok (.ifCond .gt 7, 3) := by decide +kernel
theorem dX10_isOf_60 : decode cX10_isOf 60 = .ok (.iconst 1, 1) := by decide +kernel
theorem dX10_isOf_61 : decode cX10_isOf 61 = .ok (.goto 4, 3) := by decide +kernel
theorem dX10_isOf_64 : decode cX10_isOf 64 = .ok (.iconst 0, 1) := by decide +kernel
theorem dX10_isOf_65 : decode cX10_isOf 65 = .ok (.ireturn, 1) := by decide +kernel
theorem dX10_isOf_66 : decode cX10_isOf 66 = .ok (.lload_n 1, 1) := by decide +kernel
theorem dX10_isOf_67 : decode cX10_isOf 67 = .ok (.ldc2_w 275, 3) := by decide +kernel
theorem dX10_isOf_70 : decode cX10_isOf 70 = .ok (.lcmp, 1) := by decide +kernel
theorem dX10_isOf_71 : decode cX10_isOf 71 = .ok (.ifCond .lt 15, 3) := by decide +kernel
theorem dX10_isOf_74 : decode cX10_isOf 74 = .ok (.lload_n 1, 1) := by decide +kernel
theorem dX10_isOf_75 : decode cX10_isOf 75 = .ok (.ldc2_w 277, 3) := by decide +kernel
theorem dX10_isOf_78 : decode cX10_isOf 78 = .ok (.lcmp, 1) := by decide +kernel
theorem dX10_isOf_79 : decode cX10_isOf 79 = .ok (.ifCond .gt 7, 3) := by decide +kernel
theorem dX10_isOf_82 : decode cX10_isOf 82 = .ok (.iconst 1, 1) := by decide +kernel
theorem dX10_isOf_83 : decode cX10_isOf 83 = .ok (.goto 4, 3) := by decide +kernel
theorem dX10_isOf_86 : decode cX10_isOf 86 = .ok (.iconst 0, 1) := by decide +kernel
theorem dX10_isOf_87 : decode cX10_isOf 87 = .ok (.ireturn, 1) := by decide +kernel
theorem dX10_isOf_88 : decode cX10_isOf 88 = .ok (.lload_n 1, 1) := by decide +kernel
theorem dX10_isOf_89 : decode cX10_isOf 89 = .ok (.ldc2_w 279, 3) := by decide +kernel
theorem dX10_isOf_92 : decode cX10_isOf 92 = .ok (.lcmp, 1) := by decide +kernel
theorem dX10_isOf_93 : decode cX10_isOf 93 = .ok (.ifCond .lt 15, 3) := by decide +kernel
theorem dX10_isOf_96 : decode cX10_isOf 96 = .ok (.lload_n 1, 1) := by decide +kernel
theorem dX10_isOf_97 : decode cX10_isOf 97 = .ok (.ldc2_w 281, 3) := by decide +kernel
theorem dX10_isOf_100 : decode cX10_isOf 100 = .ok (.lcmp, 1) := by decide +kernel
theorem dX10_isOf_101 : decode cX10_isOf 101 = .ok (.ifCond .gt 7, 3) := by decide +kernel
theorem dX10_isOf_104 : decode cX10_isOf 104 = .ok (.iconst 1, 1) := by decide +kernel
theorem dX10_isOf_105 : decode cX10_isOf 105 = .ok (.goto 4, 3) := by decide +kernel
theorem dX10_isOf_108 : decode cX10_isOf 108 = .ok (.iconst 0, 1) := by decide +kernel
theorem dX10_isOf_109 : decode cX10_isOf 109 = .ok (.ireturn, 1) := by decide +kernel
theorem dX10_isOf_110 : decode cX10_isOf 110 = .ok (.lload_n 1, 1) := by decide +kernel
theorem dX10_isOf_111 : decode cX10_isOf 111 = .ok (.lconst 0, 1) := by decide +kernel
theorem dX10_isOf_112 : decode cX10_isOf 112 = .ok (.lcmp, 1) := by decide +kernel
theorem dX10_isOf_113 : decode cX10_isOf 113 = .ok (.ifCond .eq 9, 3) := by decide +kernel
theorem dX10_isOf_116 : decode cX10_isOf 116 = .ok (.lload_n 1, 1) := by decide +kernel
theorem dX10_isOf_117 : decode cX10_isOf 117 = .ok (.lconst 1, 1) := by decide +kernel
theorem dX10_isOf_118 : decode cX10_isOf 118 = .ok (.lcmp, 1) := by decide +kernel
theorem dX10_isOf_119 : decode cX10_isOf 119 = .ok (.ifCond .ne 7, 3) := by decide +kernel
theorem dX10_isOf_122 : decode cX10_isOf 122 = .ok (.iconst 1, 1) := by decide +kernel
theorem dX10_isOf_123 : decode cX10_isOf 123 = .ok (.goto 4, 3) := by decide +kernel
theorem dX10_isOf_126 : decode cX10_isOf 126 = .ok (.iconst 0, 1) := by decide +kernel
theorem dX10_isOf_127 : decode cX10_isOf 127 = .ok (.ireturn, 1) := by decide +kernel
theorem dX10_isOf_128 : decode cX10_isOf 128 = .ok (.lload_n 1, 1) := by decide +kernel
theorem dX10_isOf_129 : decode cX10_isOf 129 = .ok (.lconst 0, 1) := by decide +kernel
theorem dX10_isOf_130 : decode cX10_isOf 130 = .ok (.lcmp, 1) := by decide +kernel
theorem dX10_isOf_131 : decode cX10_isOf 131 = .ok (.ifCond .lt 15, 3) := by decide +kernel
theorem dX10_isOf_134 : decode cX10_isOf 134 = .ok (.lload_n 1, 1) := by decide +kernel
theorem dX10_isOf_135 : decode cX10_isOf 135 = .ok (.ldc2_w 273, 3) := by decide +kernel
theorem dX10_isOf_138 : decode cX10_isOf 138 = .ok (.lcmp, 1) := by decide +kernel
theorem dX10_isOf_139 : decode cX10_isOf 139 = .ok (.ifCond .gt 7, 3) := by decide +kernel
theorem dX10_isOf_142 : decode cX10_isOf 142 = .ok (.iconst 1, 1) := by decide +kernel
theorem dX10_isOf_143 : decode cX10_isOf 143 = .ok (.goto 4, 3) := by decide +kernel
theorem dX10_isOf_146 : decode cX10_isOf 146 = .ok (.iconst 0, 1) := by decide +kernel
theorem dX10_isOf_147 : decode cX10_isOf 147 = .ok (.ireturn, 1) := by decide +kernel
theorem dX10_isOf_148 : decode cX10_isOf 148 = .ok (.iconst 1, 1) := by decide +kernel
theorem dX10_isOf_149 : decode cX10_isOf 149 = .ok (.ireturn, 1) := by decide +kernel
theorem dX10_staysIn64_0 : decode cX10_staysIn64 0 = .ok (.lload_n 0, 1) := by decide +kernel
theorem dX10_staysIn64_1 : decode cX10_staysIn64 1 = .ok (.ldc2_w 283, 3) := by decide +kernel
theorem dX10_staysIn64_4 : decode cX10_staysIn64 4 = .ok (.land, 1) := by decide +kernel
theorem dX10_staysIn64_5 : decode cX10_staysIn64 5 = .ok (.iload_n 2, 1) := by decide +kernel
theorem dX10_staysIn64_6 : decode cX10_staysIn64 6 = .ok (.i2l, 1) := by decide +kernel
theorem dX10_staysIn64_7 : decode cX10_staysIn64 7 = .ok (.lmul, 1) := by decide +kernel
theorem dX10_staysIn64_8 : decode cX10_staysIn64 8 = .ok (.iload_n 3, 1) := by decide +kernel
theorem dX10_staysIn64_9 : decode cX10_staysIn64 9 = .ok (.i2l, 1) := by decide +kernel
theorem dX10_staysIn64_10 : decode cX10_staysIn64 10 = .ok (.ladd, 1) := by decide +kernel
theorem dX10_staysIn64_11 : decode cX10_staysIn64 11 = .ok (.lstore 4, 2) := by decide +kernel
theorem dX10_staysIn64_13 : decode cX10_staysIn64 13 = .ok (.lload_n 0, 1) := by decide +kernel
theorem dX10_staysIn64_14 : decode cX10_staysIn64 14 = .ok (.bipush 20, 2) := by decide +kernel
theorem dX10_staysIn64_16 : decode cX10_staysIn64 16 = .ok (.lshr, 1) := by decide +kernel
theorem dX10_staysIn64_17 : decode cX10_staysIn64 17 = .ok (.iload_n 2, 1) := by decide +kernel
theorem dX10_staysIn64_18 : decode cX10_staysIn64 18 = .ok (.i2l, 1) := by decide +kernel
theorem dX10_staysIn64_19 : decode cX10_staysIn64 19 = .ok (.lmul, 1) := by decide +kernel
theorem dX10_staysIn64_20 : decode cX10_staysIn64 20 = .ok (.lload 4, 2) := by decide +kernel
theorem dX10_staysIn64_22 : decode cX10_staysIn64 22 = .ok (.bipush 20, 2) := by decide +kernel
theorem dX10_staysIn64_24 : decode cX10_staysIn64 24 = .ok (.lshr, 1) := by decide +kernel
theorem dX10_staysIn64_25 : decode cX10_staysIn64 25 = .ok (.ladd, 1) := by decide +kernel
theorem dX10_staysIn64_26 : decode cX10_staysIn64 26 = .ok (.lstore 6, 2) := by decide +kernel
theorem dX10_staysIn64_28 : decode cX10_staysIn64 28 = .ok (.lload 6, 2) := by decide +kernel
theorem dX10_staysIn64_30 : decode cX10_staysIn64 30 = .ok (.ldc2_w 285, 3) := by decide +kernel
theorem dX10_staysIn64_33 : decode cX10_staysIn64 33 = .ok (.lcmp, 1) := by decide +kernel
theorem dX10_staysIn64_34 : decode cX10_staysIn64 34 = .ok (.ifCond .lt 16, 3) := by decide +kernel
theorem dX10_staysIn64_37 : decode cX10_staysIn64 37 = .ok (.lload 6, 2) := by decide +kernel
theorem dX10_staysIn64_39 : decode cX10_staysIn64 39 = .ok (.ldc2_w 287, 3) := by decide +kernel
theorem dX10_staysIn64_42 : decode cX10_staysIn64 42 = .ok (.lcmp, 1) := by decide +kernel
theorem dX10_staysIn64_43 : decode cX10_staysIn64 43 = .ok (.ifCond .ge 7, 3) := by decide +kernel
theorem dX10_staysIn64_46 : decode cX10_staysIn64 46 = .ok (.iconst 1, 1) := by decide +kernel
theorem dX10_staysIn64_47 : decode cX10_staysIn64 47 = .ok (.goto 4, 3) := by decide +kernel
theorem dX10_staysIn64_50 : decode cX10_staysIn64 50 = .ok (.iconst 0, 1) := by decide +kernel
theorem dX10_staysIn64_51 : decode cX10_staysIn64 51 = .ok (.ireturn, 1) := by decide +kernel
theorem dX10_sumStaysIn64_0 : decode cX10_sumStaysIn64 0 = .ok (.lload_n 0, 1) := by decide +kernel
theorem dX10_sumStaysIn64_1 : decode cX10_sumStaysIn64 1 = .ok (.lload_n 2, 1) := by decide +kernel
theorem dX10_sumStaysIn64_2 : decode cX10_sumStaysIn64 2 = .ok (.ladd, 1) := by decide +kernel
theorem dX10_sumStaysIn64_3 : decode cX10_sumStaysIn64 3 = .ok (.lstore 4, 2) := by decide +kernel
theorem dX10_sumStaysIn64_5 : decode cX10_sumStaysIn64 5 = .ok (.lload_n 0, 1) := by decide +kernel
theorem dX10_sumStaysIn64_6 : decode cX10_sumStaysIn64 6 = .ok (.lload 4, 2) := by decide +kernel
theorem dX10_sumStaysIn64_8 : decode cX10_sumStaysIn64 8 = .ok (.lxor, 1) := by decide +kernel
theorem dX10_sumStaysIn64_9 : decode cX10_sumStaysIn64 9 = .ok (.lload_n 2, 1) := by decide +kernel
theorem dX10_sumStaysIn64_10 : decode cX10_sumStaysIn64 10 = .ok (.lload 4, 2) := by decide +kernel
theorem dX10_sumStaysIn64_12 : decode cX10_sumStaysIn64 12 = .ok (.lxor, 1) := by decide +kernel
theorem dX10_sumStaysIn64_13 : decode cX10_sumStaysIn64 13 = .ok (.land, 1) := by decide +kernel
theorem dX10_sumStaysIn64_14 : decode cX10_sumStaysIn64 14 = .ok (.lconst 0, 1) := by decide +kernel
theorem dX10_sumStaysIn64_15 : decode cX10_sumStaysIn64 15 = .ok (.lcmp, 1) := by decide +kernel
theorem dX10_sumStaysIn64_16 : decode cX10_sumStaysIn64 16 = .ok (.ifCond .lt 7, 3) := by decide +kernel
theorem dX10_sumStaysIn64_19 : decode cX10_sumStaysIn64 19 = .ok (.iconst 1, 1) := by decide +kernel
theorem dX10_sumStaysIn64_20 : decode cX10_sumStaysIn64 20 = .ok (.goto 4, 3) := by decide +kernel
theorem dX10_sumStaysIn64_23 : decode cX10_sumStaysIn64 23 = .ok (.iconst 0, 1) := by decide +kernel
theorem dX10_sumStaysIn64_24 : decode cX10_sumStaysIn64 24 = .ok (.ireturn, 1) := by decide +kernel
theorem dX11_init_0 : decode cX11_init 0 = .ok (.aload_n 0, 1) := by decide +kernel
theorem dX11_init_1 : decode cX11_init 1 = .ok (.invokespecial 1, 3) := by decide +kernel
theorem dX11_init_4 : decode cX11_init 4 = .ok (.aload_n 0, 1) := by decide +kernel
theorem dX11_init_5 : decode cX11_init 5 = .ok (.bipush 32, 2) := by decide +kernel
theorem dX11_init_7 : decode cX11_init 7 = .ok (.newarray .int, 2) := by decide +kernel
theorem dX11_init_9 : decode cX11_init 9 = .ok (.putfield 7, 3) := by decide +kernel
theorem dX11_init_12 : decode cX11_init 12 = .ok (.aload_n 0, 1) := by decide +kernel
theorem dX11_init_13 : decode cX11_init 13 = .ok (.bipush 32, 2) := by decide +kernel
theorem dX11_init_15 : decode cX11_init 15 = .ok (.newarray .int, 2) := by decide +kernel
theorem dX11_init_17 : decode cX11_init 17 = .ok (.putfield 13, 3) := by decide +kernel
theorem dX11_init_20 : decode cX11_init 20 = .ok (.aload_n 0, 1) := by decide +kernel
theorem dX11_init_21 : decode cX11_init 21 = .ok (.bipush 32, 2) := by decide +kernel
theorem dX11_init_23 : decode cX11_init 23 = .ok (.newarray .int, 2) := by decide +kernel
theorem dX11_init_25 : decode cX11_init 25 = .ok (.putfield 16, 3) := by decide +kernel
theorem dX11_init_28 : decode cX11_init 28 = .ok (.aload_n 0, 1) := by decide +kernel
theorem dX11_init_29 : decode cX11_init 29 = .ok (.bipush 32, 2) := by decide +kernel
theorem dX11_init_31 : decode cX11_init 31 = .ok (.newarray .int, 2) := by decide +kernel
theorem dX11_init_33 : decode cX11_init 33 = .ok (.putfield 19, 3) := by decide +kernel
theorem dX11_init_36 : decode cX11_init 36 = .ok (.aload_n 0, 1) := by decide +kernel
theorem dX11_init_37 : decode cX11_init 37 = .ok (.bipush 32, 2) := by decide +kernel
theorem dX11_init_39 : decode cX11_init 39 = .ok (.newarray .int, 2) := by decide +kernel
theorem dX11_init_41 : decode cX11_init 41 = .ok (.putfield 22, 3) := by decide +kernel
theorem dX11_init_44 : decode cX11_init 44 = .ok (.aload_n 0, 1) := by decide +kernel
theorem dX11_init_45 : decode cX11_init 45 = .ok (.bipush 32, 2) := by decide +kernel
theorem dX11_init_47 : decode cX11_init 47 = .ok (.newarray .boolean, 2) := by decide +kernel
theorem dX11_init_49 : decode cX11_init 49 = .ok (.putfield 25, 3) := by decide +kernel
theorem dX11_init_52 : decode cX11_init 52 = .ok (.aload_n 0, 1) := by decide +kernel
theorem dX11_init_53 : decode cX11_init 53 = .ok (.bipush 20, 2) := by decide +kernel
theorem dX11_init_55 : decode cX11_init 55 = .ok (.newarray .int, 2) := by decide +kernel
theorem dX11_init_57 : decode cX11_init 57 = .ok (.putfield 29, 3) := by decide +kernel
theorem dX11_init_60 : decode cX11_init 60 = .ok (.aload_n 0, 1) := by decide +kernel
theorem dX11_init_61 : decode cX11_init 61 = .ok (.bipush 120, 2) := by decide +kernel
theorem dX11_init_63 : decode cX11_init 63 = .ok (.newarray .int, 2) := by decide +kernel
theorem dX11_init_65 : decode cX11_init 65 = .ok (.putfield 32, 3) := by decide +kernel
theorem dX11_init_68 : decode cX11_init 68 = .ok (.aload_n 0, 1) := by decide +kernel
theorem dX11_init_69 : decode cX11_init 69 = .ok (.bipush 120, 2) := by decide +kernel
theorem dX11_init_71 : decode cX11_init 71 = .ok (.newarray .int, 2) := by decide +kernel
theorem dX11_init_73 : decode cX11_init 73 = .ok (.putfield 35, 3) := by decide +kernel
theorem dX11_init_76 : decode cX11_init 76 = .ok (.aload_n 0, 1) := by decide +kernel
theorem dX11_init_77 : decode cX11_init 77 = .ok (.sipush 480, 3) := by decide +kernel
theorem dX11_init_80 : decode cX11_init 80 = .ok (.newarray .int, 2) := by decide +kernel
theorem dX11_init_82 : decode cX11_init 82 = .ok (.putfield 38, 3) := by decide +kernel
theorem dX11_init_85 : decode cX11_init 85 = .ok (.aload_n 0, 1) := by decide +kernel
theorem dX11_init_86 : decode cX11_init 86 = .ok (.bipush 120, 2) := by decide +kernel
theorem dX11_init_88 : decode cX11_init 88 = .ok (.newarray .int, 2) := by decide +kernel
theorem dX11_init_90 : decode cX11_init 90 = .ok (.putfield 41, 3) := by decide +kernel
theorem dX11_init_93 : decode cX11_init 93 = .ok (.aload_n 0, 1) := by decide +kernel
theorem dX11_init_94 : decode cX11_init 94 = .ok (.bipush 120, 2) := by decide +kernel
theorem dX11_init_96 : decode cX11_init 96 = .ok (.newarray .int, 2) := by decide +kernel
theorem dX11_init_98 : decode cX11_init 98 = .ok (.putfield 44, 3) := by decide +kernel
theorem dX11_init_101 : decode cX11_init 101 = .ok (.aload_n 0, 1) := by decide +kernel
theorem dX11_init_102 : decode cX11_init 102 = .ok (.bipush 120, 2) := by decide +kernel
theorem dX11_init_104 : decode cX11_init 104 = .ok (.newarray .int, 2) := by decide +kernel
theorem dX11_init_106 : decode cX11_init 106 = .ok (.putfield 47, 3) := by decide +kernel
theorem dX11_init_109 : decode cX11_init 109 = .ok (.aload_n 0, 1) := by decide +kernel
theorem dX11_init_110 : decode cX11_init 110 = .ok (.bipush 120, 2) := by decide +kernel
theorem dX11_init_112 : decode cX11_init 112 = .ok (.newarray .int, 2) := by decide +kernel
theorem dX11_init_114 : decode cX11_init 114 = .ok (.putfield 50, 3) := by decide +kernel
theorem dX11_init_117 : decode cX11_init 117 = .ok (.aload_n 0, 1) := by decide +kernel
theorem dX11_init_118 : decode cX11_init 118 = .ok (.sipush 480, 3) := by decide +kernel
theorem dX11_init_121 : decode cX11_init 121 = .ok (.newarray .int, 2) := by decide +kernel
theorem dX11_init_123 : decode cX11_init 123 = .ok (.putfield 53, 3) := by decide +kernel
theorem dX11_init_126 : decode cX11_init 126 = .ok (.aload_n 0, 1) := by decide +kernel
theorem dX11_init_127 : decode cX11_init 127 = .ok (.sipush 10000, 3) := by decide +kernel
theorem dX11_init_130 : decode cX11_init 130 = .ok (.newarray .boolean, 2) := by decide +kernel
theorem dX11_init_132 : decode cX11_init 132 = .ok (.putfield 56, 3) := by decide +kernel
theorem dX11_init_135 : decode cX11_init 135 = .ok (.aload_n 0, 1) := by decide +kernel
theorem dX11_init_136 : decode cX11_init 136 = .ok (.bipush 7, 2) := by decide +kernel
theorem dX11_init_138 : decode cX11_init 138 = .ok (.newarray .boolean, 2) := by decide +kernel
theorem dX11_init_140 : decode cX11_init 140 = .ok (.putfield 59, 3) := by decide +kernel
theorem dX11_init_143 : decode cX11_init 143 = .ok (.aload_n 0, 1) := by decide +kernel
theorem dX11_init_144 : decode cX11_init 144 = .ok (.bipush 7, 2) := by decide +kernel
theorem dX11_init_146 : decode cX11_init 146 = .ok (.newarray .long, 2) := by decide +kernel
theorem dX11_init_148 : decode cX11_init 148 = .ok (.putfield 62, 3) := by decide +kernel
theorem dX11_init_151 : decode cX11_init 151 = .ok (.aload_n 0, 1) := by decide +kernel
theorem dX11_init_152 : decode cX11_init 152 = .ok (.bipush 20, 2) := by decide +kernel
theorem dX11_init_154 : decode cX11_init 154 = .ok (.newarray .int, 2) := by decide +kernel
theorem dX11_init_156 : decode cX11_init 156 = .ok (.putfield 66, 3) := by decide +kernel
theorem dX11_init_159 : decode cX11_init 159 = .ok (.aload_n 0, 1) := by decide +kernel
theorem dX11_init_160 : decode cX11_init 160 = .ok (.bipush 60, 2) := by decide +kernel
theorem dX11_init_162 : decode cX11_init 162 = .ok (.newarray .long, 2) := by decide +kernel
theorem dX11_init_164 : decode cX11_init 164 = .ok (.putfield 69, 3) := by decide +kernel
theorem dX11_init_167 : decode cX11_init 167 = .ok (.aload_n 0, 1) := by decide +kernel
theorem dX11_init_168 : decode cX11_init 168 = .ok (.iconst 4, 1) := by decide +kernel
theorem dX11_init_169 : decode cX11_init 169 = .ok (.newarray .long, 2) := by decide +kernel
theorem dX11_init_171 : decode cX11_init 171 = .ok (.putfield 72, 3) := by decide +kernel
theorem dX11_init_174 : decode cX11_init 174 = .ok (.aload_n 0, 1) := by decide +kernel
theorem dX11_init_175 : decode cX11_init 175 = .ok (.bipush 49, 2) := by decide +kernel
theorem dX11_init_177 : decode cX11_init 177 = .ok (.newarray .int, 2) := by decide +kernel
theorem dX11_init_179 : decode cX11_init 179 = .ok (.putfield 75, 3) := by decide +kernel
theorem dX11_init_182 : decode cX11_init 182 = .ok (.aload_n 0, 1) := by decide +kernel
theorem dX11_init_183 : decode cX11_init 183 = .ok (.bipush 49, 2) := by decide +kernel
theorem dX11_init_185 : decode cX11_init 185 = .ok (.newarray .int, 2) := by decide +kernel
theorem dX11_init_187 : decode cX11_init 187 = .ok (.putfield 78, 3) := by decide +kernel
theorem dX11_init_190 : decode cX11_init 190 = .ok (.aload_n 0, 1) := by decide +kernel
theorem dX11_init_191 : decode cX11_init 191 = .ok (.sipush 294, 3) := by decide +kernel
theorem dX11_init_194 : decode cX11_init 194 = .ok (.newarray .int, 2) := by decide +kernel
theorem dX11_init_196 : decode cX11_init 196 = .ok (.putfield 81, 3) := by decide +kernel
theorem dX11_init_199 : decode cX11_init 199 = .ok (.aload_n 0, 1) := by decide +kernel
theorem dX11_init_200 : decode cX11_init 200 = .ok (.bipush 49, 2) := by decide +kernel
theorem dX11_init_202 : decode cX11_init 202 = .ok (.newarray .int, 2) := by decide +kernel
theorem dX11_init_204 : decode cX11_init 204 = .ok (.putfield 84, 3) := by decide +kernel
theorem dX11_init_207 : decode cX11_init 207 = .ok (.aload_n 0, 1) := by decide +kernel
theorem dX11_init_208 : decode cX11_init 208 = .ok (.sipush 294, 3) := by decide +kernel
theorem dX11_init_211 : decode cX11_init 211 = .ok (.newarray .int, 2) := by decide +kernel
theorem dX11_init_213 : decode cX11_init 213 = .ok (.putfield 87, 3) := by decide +kernel
theorem dX11_init_216 : decode cX11_init 216 = .ok (.aload_n 0, 1) := by decide +kernel
theorem dX11_init_217 : decode cX11_init 217 = .ok (.iconst 4, 1) := by decide +kernel
theorem dX11_init_218 : decode cX11_init 218 = .ok (.newarray .int, 2) := by decide +kernel
theorem dX11_init_220 : decode cX11_init 220 = .ok (.putfield 90, 3) := by decide +kernel
theorem dX11_init_223 : decode cX11_init 223 = .ok (.aload_n 0, 1) := by decide +kernel
theorem dX11_init_224 : decode cX11_init 224 = .ok (.iconst 4, 1) := by decide +kernel
theorem dX11_init_225 : decode cX11_init 225 = .ok (.newarray .int, 2) := by decide +kernel
theorem dX11_init_227 : decode cX11_init 227 = .ok (.putfield 93, 3) := by decide +kernel
theorem dX11_init_230 : decode cX11_init 230 = .ok (.aload_n 0, 1) := by decide +kernel
theorem dX11_init_231 : decode cX11_init 231 = .ok (.iconst 4, 1) := by decide +kernel
theorem dX11_init_232 : decode cX11_init 232 = .ok (.newarray .int, 2) := by decide +kernel
theorem dX11_init_234 : decode cX11_init 234 = .ok (.putfield 96, 3) := by decide +kernel
theorem dX11_init_237 : decode cX11_init 237 = .ok (.aload_n 0, 1) := by decide +kernel
theorem dX11_init_238 : decode cX11_init 238 = .ok (.bipush 100, 2) := by decide +kernel
theorem dX11_init_240 : decode cX11_init 240 = .ok (.newarray .int, 2) := by decide +kernel
theorem dX11_init_242 : decode cX11_init 242 = .ok (.putfield 99, 3) := by decide +kernel
theorem dX11_init_245 : decode cX11_init 245 = .ok (.aload_n 0, 1) := by decide +kernel
theorem dX11_init_246 : decode cX11_init 246 = .ok (.sipush 1000, 3) := by decide +kernel
theorem dX11_init_249 : decode cX11_init 249 = .ok (.newarray .int, 2) := by decide +kernel
theorem dX11_init_251 : decode cX11_init 251 = .ok (.putfield 102, 3) := by decide +kernel
theorem dX11_init_254 : decode cX11_init 254 = .ok (.aload_n 0, 1) := by decide +kernel
theorem dX11_init_255 : decode cX11_init 255 = .ok (.bipush 100, 2) := by decide +kernel
theorem dX11_init_257 : decode cX11_init 257 = .ok (.newarray .int, 2) := by decide +kernel
theorem dX11_init_259 : decode cX11_init 259 = .ok (.putfield 105, 3) := by decide +kernel
theorem dX11_init_262 : decode cX11_init 262 = .ok (.aload_n 0, 1) := by decide +kernel
theorem dX11_init_263 : decode cX11_init 263 = .ok (.bipush 10, 2) := by decide +kernel
theorem dX11_init_265 : decode cX11_init 265 = .ok (.newarray .int, 2) := by decide +kernel
theorem dX11_init_267 : decode cX11_init 267 = .ok (.putfield 108, 3) := by decide +kernel
theorem dX11_init_270 : decode cX11_init 270 = .ok (.aload_n 0, 1) := by decide +kernel
theorem dX11_init_271 : decode cX11_init 271 = .ok (.bipush 11, 2) := by decide +kernel
theorem dX11_init_273 : decode cX11_init 273 = .ok (.newarray .int, 2) := by decide +kernel
theorem dX11_init_275 : decode cX11_init 275 = .ok (.putfield 111, 3) := by decide +kernel
theorem dX11_init_278 : decode cX11_init 278 = .ok (.aload_n 0, 1) := by decide +kernel
theorem dX11_init_279 : decode cX11_init 279 = .ok (.bipush 44, 2) := by decide +kernel
theorem dX11_init_281 : decode cX11_init 281 = .ok (.newarray .int, 2) := by decide +kernel
theorem dX11_init_283 : decode cX11_init 283 = .ok (.putfield 114, 3) := by decide +kernel
theorem dX11_init_286 : decode cX11_init 286 = .ok (.aload_n 0, 1) := by decide +kernel
theorem dX11_init_287 : decode cX11_init 287 = .ok (.iconst 4, 1) := by decide +kernel
theorem dX11_init_288 : decode cX11_init 288 = .ok (.newarray .long, 2) := by decide +kernel
theorem dX11_init_290 : decode cX11_init 290 = .ok (.putfield 117, 3) := by decide +kernel
theorem dX11_init_293 : decode cX11_init 293 = .ok (.aload_n 0, 1) := by decide +kernel
theorem dX11_init_294 : decode cX11_init 294 = .ok (.iconst 4, 1) := by decide +kernel
theorem dX11_init_295 : decode cX11_init 295 = .ok (.newarray .long, 2) := by decide +kernel
theorem dX11_init_297 : decode cX11_init 297 = .ok (.putfield 120, 3) := by decide +kernel
theorem dX11_init_300 : decode cX11_init 300 = .ok (.aload_n 0, 1) := by decide +kernel
theorem dX11_init_301 : decode cX11_init 301 = .ok (.iconst 0, 1) := by decide +kernel
theorem dX11_init_302 : decode cX11_init 302 = .ok (.iconst 1, 1) := by decide +kernel
theorem dX11_init_303 : decode cX11_init 303 = .ok (.iconst 1, 1) := by decide +kernel
theorem dX11_init_304 : decode cX11_init 304 = .ok (.invokevirtual 123, 3) := by decide +kernel
theorem dX11_init_307 : decode cX11_init 307 = .ok (.aload_n 0, 1) := by decide +kernel
theorem dX11_init_308 : decode cX11_init 308 = .ok (.iconst 1, 1) := by decide +kernel
theorem dX11_init_309 : decode cX11_init 309 = .ok (.iconst 2, 1) := by decide +kernel
theorem dX11_init_310 : decode cX11_init 310 = .ok (.iconst 1, 1) := by decide +kernel
theorem dX11_init_311 : decode cX11_init 311 = .ok (.invokevirtual 123, 3) := by decide +kernel
theorem dX11_init_314 : decode cX11_init 314 = .ok (.aload_n 0, 1) := by decide +kernel
theorem dX11_init_315 : decode cX11_init 315 = .ok (.iconst 2, 1) := by decide +kernel
theorem dX11_init_316 : decode cX11_init 316 = .ok (.iconst 3, 1) := by decide +kernel
theorem dX11_init_317 : decode cX11_init 317 = .ok (.iconst 1, 1) := by decide +kernel
theorem dX11_init_318 : decode cX11_init 318 = .ok (.invokevirtual 123, 3) := by decide +kernel
theorem dX11_init_321 : decode cX11_init 321 = .ok (.aload_n 0, 1) := by decide +kernel
theorem dX11_init_322 : decode cX11_init 322 = .ok (.iconst 3, 1) := by decide +kernel
theorem dX11_init_323 : decode cX11_init 323 = .ok (.iconst 2, 1) := by decide +kernel
theorem dX11_init_324 : decode cX11_init 324 = .ok (.iconst 5, 1) := by decide +kernel
theorem dX11_init_325 : decode cX11_init 325 = .ok (.invokevirtual 123, 3) := by decide +kernel
theorem dX11_init_328 : decode cX11_init 328 = .ok (.aload_n 0, 1) := by decide +kernel
theorem dX11_init_329 : decode cX11_init 329 = .ok (.iconst 2, 1) := by decide +kernel
theorem dX11_init_330 : decode cX11_init 330 = .ok (.iconst 1, 1) := by decide +kernel
theorem dX11_init_331 : decode cX11_init 331 = .ok (.iconst 5, 1) := by decide +kernel
theorem dX11_init_332 : decode cX11_init 332 = .ok (.invokevirtual 123, 3) := by decide +kernel
theorem dX11_init_335 : decode cX11_init 335 = .ok (.aload_n 0, 1) := by decide +kernel
theorem dX11_init_336 : decode cX11_init 336 = .ok (.iconst 1, 1) := by decide +kernel
theorem dX11_init_337 : decode cX11_init 337 = .ok (.iconst 0, 1) := by decide +kernel
theorem dX11_init_338 : decode cX11_init 338 = .ok (.iconst 5, 1) := by decide +kernel
theorem dX11_init_339 : decode cX11_init 339 = .ok (.invokevirtual 123, 3) := by decide +kernel
theorem dX11_init_342 : decode cX11_init 342 = .ok (.aload_n 0, 1) := by decide +kernel
theorem dX11_init_343 : decode cX11_init 343 = .ok (.iconst 4, 1) := by decide +kernel
theorem dX11_init_344 : decode cX11_init 344 = .ok (.iconst 0, 1) := by decide +kernel
theorem dX11_init_345 : decode cX11_init 345 = .ok (.iconst 2, 1) := by decide +kernel
theorem dX11_init_346 : decode cX11_init 346 = .ok (.invokevirtual 123, 3) := by decide +kernel
theorem dX11_init_349 : decode cX11_init 349 = .ok (.aload_n 0, 1) := by decide +kernel
theorem dX11_init_350 : decode cX11_init 350 = .ok (.iconst 2, 1) := by decide +kernel
theorem dX11_init_351 : decode cX11_init 351 = .ok (.iconst 4, 1) := by decide +kernel
theorem dX11_init_352 : decode cX11_init 352 = .ok (.bipush 6, 2) := by decide +kernel
theorem dX11_init_354 : decode cX11_init 354 = .ok (.invokevirtual 123, 3) := by decide +kernel
theorem dX11_init_357 : decode cX11_init 357 = .ok (.aload_n 0, 1) := by decide +kernel
theorem dX11_init_358 : decode cX11_init 358 = .ok (.iconst 3, 1) := by decide +kernel
theorem dX11_init_359 : decode cX11_init 359 = .ok (.iconst 5, 1) := by decide +kernel
theorem dX11_init_360 : decode cX11_init 360 = .ok (.iconst 3, 1) := by decide +kernel
theorem dX11_init_361 : decode cX11_init 361 = .ok (.invokevirtual 123, 3) := by decide +kernel
theorem dX11_init_364 : decode cX11_init 364 = .ok (.aload_n 0, 1) := by decide +kernel
theorem dX11_init_365 : decode cX11_init 365 = .ok (.iconst 5, 1) := by decide +kernel
theorem dX11_init_366 : decode cX11_init 366 = .ok (.iconst 3, 1) := by decide +kernel
theorem dX11_init_367 : decode cX11_init 367 = .ok (.bipush 6, 2) := by decide +kernel
theorem dX11_init_369 : decode cX11_init 369 = .ok (.invokevirtual 123, 3) := by decide +kernel
theorem dX11_init_372 : decode cX11_init 372 = .ok (.aload_n 0, 1) := by decide +kernel
theorem dX11_init_373 : decode cX11_init 373 = .ok (.bipush 6, 2) := by decide +kernel
theorem dX11_init_375 : decode cX11_init 375 = .ok (.iconst 1, 1) := by decide +kernel
theorem dX11_init_376 : decode cX11_init 376 = .ok (.iconst 2, 1) := by decide +kernel
theorem dX11_init_377 : decode cX11_init 377 = .ok (.invokevirtual 123, 3) := by decide +kernel
theorem dX11_init_380 : decode cX11_init 380 = .ok (.aload_n 0, 1) := by decide +kernel
theorem dX11_init_381 : decode cX11_init 381 = .ok (.iconst 1, 1) := by decide +kernel
theorem dX11_init_382 : decode cX11_init 382 = .ok (.bipush 6, 2) := by decide +kernel
theorem dX11_init_384 : decode cX11_init 384 = .ok (.iconst 5, 1) := by decide +kernel
theorem dX11_init_385 : decode cX11_init 385 = .ok (.invokevirtual 123, 3) := by decide +kernel
theorem dX11_init_388 : decode cX11_init 388 = .ok (.return_, 1) := by decide +kernel
theorem dX11_base_0 : decode cX11_base 0 = .ok (.aload_n 0, 1) := by decide +kernel
theorem dX11_base_1 : decode cX11_base 1 = .ok (.getfield 7, 3) := by decide +kernel
theorem dX11_base_4 : decode cX11_base 4 = .ok (.aload_n 0, 1) := by decide +kernel
theorem dX11_base_5 : decode cX11_base 5 = .ok (.getfield 127, 3) := by decide +kernel
theorem dX11_base_8 : decode cX11_base 8 = .ok (.iload_n 1, 1) := by decide +kernel
theorem dX11_base_9 : decode cX11_base 9 = .ok (.iastore, 1) := by decide +kernel
theorem dX11_base_10 : decode cX11_base 10 = .ok (.aload_n 0, 1) := by decide +kernel
theorem dX11_base_11 : decode cX11_base 11 = .ok (.getfield 13, 3) := by decide +kernel
theorem dX11_base_14 : decode cX11_base 14 = .ok (.aload_n 0, 1) := by decide +kernel
theorem dX11_base_15 : decode cX11_base 15 = .ok (.getfield 127, 3) := by decide +kernel
theorem dX11_base_18 : decode cX11_base 18 = .ok (.iload_n 2, 1) := by decide +kernel
theorem dX11_base_19 : decode cX11_base 19 = .ok (.iastore, 1) := by decide +kernel
theorem dX11_base_20 : decode cX11_base 20 = .ok (.aload_n 0, 1) := by decide +kernel
theorem dX11_base_21 : decode cX11_base 21 = .ok (.getfield 16, 3) := by decide +kernel
theorem dX11_base_24 : decode cX11_base 24 = .ok (.aload_n 0, 1) := by decide +kernel
theorem dX11_base_25 : decode cX11_base 25 = .ok (.getfield 127, 3) := by decide +kernel
theorem dX11_base_28 : decode cX11_base 28 = .ok (.iload_n 3, 1) := by decide +kernel
theorem dX11_base_29 : decode cX11_base 29 = .ok (.iastore, 1) := by decide +kernel
theorem dX11_base_30 : decode cX11_base 30 = .ok (.aload_n 0, 1) := by decide +kernel
theorem dX11_base_31 : decode cX11_base 31 = .ok (.getfield 19, 3) := by decide +kernel
theorem dX11_base_34 : decode cX11_base 34 = .ok (.aload_n 0, 1) := by decide +kernel
theorem dX11_base_35 : decode cX11_base 35 = .ok (.getfield 127, 3) := by decide +kernel
theorem dX11_base_38 : decode cX11_base 38 = .ok (.iconst 1, 1) := by decide +kernel
theorem dX11_base_39 : decode cX11_base 39 = .ok (.iastore, 1) := by decide +kernel
theorem dX11_base_40 : decode cX11_base 40 = .ok (.aload_n 0, 1) := by decide +kernel
theorem dX11_base_41 : decode cX11_base 41 = .ok (.getfield 22, 3) := by decide +kernel
theorem dX11_base_44 : decode cX11_base 44 = .ok (.aload_n 0, 1) := by decide +kernel
theorem dX11_base_45 : decode cX11_base 45 = .ok (.getfield 127, 3) := by decide +kernel
theorem dX11_base_48 : decode cX11_base 48 = .ok (.iconst 0, 1) := by decide +kernel
theorem dX11_base_49 : decode cX11_base 49 = .ok (.iastore, 1) := by decide +kernel
theorem dX11_base_50 : decode cX11_base 50 = .ok (.aload_n 0, 1) := by decide +kernel
theorem dX11_base_51 : decode cX11_base 51 = .ok (.getfield 25, 3) := by decide +kernel
theorem dX11_base_54 : decode cX11_base 54 = .ok (.aload_n 0, 1) := by decide +kernel
theorem dX11_base_55 : decode cX11_base 55 = .ok (.getfield 127, 3) := by decide +kernel
theorem dX11_base_58 : decode cX11_base 58 = .ok (.iconst 1, 1) := by decide +kernel
theorem dX11_base_59 : decode cX11_base 59 = .ok (.bastore, 1) := by decide +kernel
theorem dX11_base_60 : decode cX11_base 60 = .ok (.aload_n 0, 1) := by decide +kernel
theorem dX11_base_61 : decode cX11_base 61 = .ok (.dup, 1) := by decide +kernel
theorem dX11_base_62 : decode cX11_base 62 = .ok (.getfield 127, 3) := by decide +kernel
theorem dX11_base_65 : decode cX11_base 65 = .ok (.iconst 1, 1) := by decide +kernel
theorem dX11_base_66 : decode cX11_base 66 = .ok (.iadd, 1) := by decide +kernel
theorem dX11_base_67 : decode cX11_base 67 = .ok (.putfield 127, 3) := by decide +kernel
theorem dX11_base_70 : decode cX11_base 70 = .ok (.return_, 1) := by decide +kernel
theorem dX11_in_0 : decode cX11_in 0 = .ok (.lload_n 0, 1) := by decide +kernel
theorem dX11_in_1 : decode cX11_in 1 = .ok (.lload_n 2, 1) := by decide +kernel
theorem dX11_in_2 : decode cX11_in 2 = .ok (.lcmp, 1) := by decide +kernel
theorem dX11_in_3 : decode cX11_in 3 = .ok (.ifCond .lt 14, 3) := by decide +kernel
theorem dX11_in_6 : decode cX11_in 6 = .ok (.lload_n 0, 1) := by decide +kernel
theorem dX11_in_7 : decode cX11_in 7 = .ok (.lload 4, 2) := by decide +kernel
theorem dX11_in_9 : decode cX11_in 9 = .ok (.lcmp, 1) := by decide +kernel
theorem dX11_in_10 : decode cX11_in 10 = .ok (.ifCond .gt 7, 3) := by decide +kernel
theorem dX11_in_13 : decode cX11_in 13 = .ok (.iconst 1, 1) := by decide +kernel
theorem dX11_in_14 : decode cX11_in 14 = .ok (.goto 4, 3) := by decide +kernel
theorem dX11_in_17 : decode cX11_in 17 = .ok (.iconst 0, 1) := by decide +kernel
theorem dX11_in_18 : decode cX11_in 18 = .ok (.ireturn, 1) := by decide +kernel
theorem dX11_isOf_0 : decode cX11_isOf 0 = .ok (.iload_n 0, 1) := by decide +kernel
theorem dX11_isOf_1 : decode cX11_isOf 1 = .ok (.tableswitch 92 0 6 #[43, 54, 65, 92, 76, 92, 83], 43) := by decide +kernel
theorem dX11_isOf_44 : decode cX11_isOf 44 = .ok (.lload_n 1, 1) := by decide +kernel
theorem dX11_isOf_45 : decode cX11_isOf 45 = .ok (.ldc2_w 134, 3) := by decide +kernel
theorem dX11_isOf_48 : decode cX11_isOf 48 = .ok (.ldc2_w 136, 3) := by decide +kernel
theorem dX11_isOf_51 : decode cX11_isOf 51 = .ok (.invokestatic 138, 3) := by decide +kernel
theorem dX11_isOf_54 : decode cX11_isOf 54 = .ok (.ireturn, 1) := by decide +kernel
theorem dX11_isOf_55 : decode cX11_isOf 55 = .ok (.lload_n 1, 1) := by decide +kernel
theorem dX11_isOf_56 : decode cX11_isOf 56 = .ok (.ldc2_w 142, 3) := by decide +kernel
theorem dX11_isOf_59 : decode cX11_isOf 59 = .ok (.ldc2_w 144, 3) := by decide +kernel
theorem dX11_isOf_62 : decode cX11_isOf 62 = .ok (.invokestatic 138, 3) := by decide +kernel
theorem dX11_isOf_65 : decode cX11_isOf 65 = .ok (.ireturn, 1) := by decide +kernel
theorem dX11_isOf_66 : decode cX11_isOf 66 = .ok (.lload_n 1, 1) := by decide +kernel
theorem dX11_isOf_67 : decode cX11_isOf 67 = .ok (.ldc2_w 146, 3) := by decide +kernel
theorem dX11_isOf_70 : decode cX11_isOf 70 = .ok (.ldc2_w 148, 3) := by decide +kernel
theorem dX11_isOf_73 : decode cX11_isOf 73 = .ok (.invokestatic 138, 3) := by decide +kernel
theorem dX11_isOf_76 : decode cX11_isOf 76 = .ok (.ireturn, 1) := by decide +kernel
theorem dX11_isOf_77 : decode cX11_isOf 77 = .ok (.lload_n 1, 1) := by decide +kernel
theorem dX11_isOf_78 : decode cX11_isOf 78 = .ok (.lconst 0, 1) := by decide +kernel
theorem dX11_isOf_79 : decode cX11_isOf 79 = .ok (.lconst 1, 1) := by decide +kernel
theorem dX11_isOf_80 : decode cX11_isOf 80 = .ok (.invokestatic 138, 3) := by decide +kernel
theorem dX11_isOf_83 : decode cX11_isOf 83 = .ok (.ireturn, 1) := by decide +kernel
theorem dX11_isOf_84 : decode cX11_isOf 84 = .ok (.lload_n 1, 1) := by decide +kernel
theorem dX11_isOf_85 : decode cX11_isOf 85 = .ok (.lconst 0, 1) := by decide +kernel
theorem dX11_isOf_86 : decode cX11_isOf 86 = .ok (.ldc2_w 136, 3) := by decide +kernel
theorem dX11_isOf_89 : decode cX11_isOf 89 = .ok (.invokestatic 138, 3) := by decide +kernel
theorem dX11_isOf_92 : decode cX11_isOf 92 = .ok (.ireturn, 1) := by decide +kernel
theorem dX11_isOf_93 : decode cX11_isOf 93 = .ok (.iconst 1, 1) := by decide +kernel
theorem dX11_isOf_94 : decode cX11_isOf 94 = .ok (.ireturn, 1) := by decide +kernel
theorem dX11_rule_0 : decode cX11_rule 0 = .ok (.aload_n 0, 1) := by decide +kernel
theorem dX11_rule_1 : decode cX11_rule 1 = .ok (.iconst 0, 1) := by decide +kernel
theorem dX11_rule_2 : decode cX11_rule 2 = .ok (.putfield 131, 3) := by decide +kernel
theorem dX11_rule_5 : decode cX11_rule 5 = .ok (.iload_n 1, 1) := by decide +kernel
theorem dX11_rule_6 : decode cX11_rule 6 = .ok (.i2l, 1) := by decide +kernel
theorem dX11_rule_7 : decode cX11_rule 7 = .ok (.lconst 0, 1) := by decide +kernel
theorem dX11_rule_8 : decode cX11_rule 8 = .ok (.ldc2_w 150, 3) := by decide +kernel
theorem dX11_rule_11 : decode cX11_rule 11 = .ok (.invokestatic 138, 3) := by decide +kernel
theorem dX11_rule_14 : decode cX11_rule 14 = .ok (.ifCond .eq 69, 3) := by decide +kernel
theorem dX11_rule_17 : decode cX11_rule 17 = .ok (.iload_n 2, 1) := by decide +kernel
theorem dX11_rule_18 : decode cX11_rule 18 = .ok (.i2l, 1) := by decide +kernel
theorem dX11_rule_19 : decode cX11_rule 19 = .ok (.lconst 0, 1) := by decide +kernel
theorem dX11_rule_20 : decode cX11_rule 20 = .ok (.ldc2_w 150, 3) := by decide +kernel
theorem dX11_rule_23 : decode cX11_rule 23 = .ok (.invokestatic 138, 3) := by decide +kernel
theorem dX11_rule_26 : decode cX11_rule 26 = .ok (.ifCond .eq 57, 3) := by decide +kernel
theorem dX11_rule_29 : decode cX11_rule 29 = .ok (.iload_n 1, 1) := by decide +kernel
theorem dX11_rule_30 : decode cX11_rule 30 = .ok (.iload_n 2, 1) := by decide +kernel
theorem dX11_rule_31 : decode cX11_rule 31 = .ok (.if_icmp .eq 52, 3) := by decide +kernel
theorem dX11_rule_34 : decode cX11_rule 34 = .ok (.iload_n 3, 1) := by decide +kernel
theorem dX11_rule_35 : decode cX11_rule 35 = .ok (.i2l, 1) := by decide +kernel
theorem dX11_rule_36 : decode cX11_rule 36 = .ok (.lconst 1, 1) := by decide +kernel
theorem dX11_rule_37 : decode cX11_rule 37 = .ok (.ldc2_w 152, 3) := by decide +kernel
theorem dX11_rule_40 : decode cX11_rule 40 = .ok (.invokestatic 138, 3) := by decide +kernel
theorem dX11_rule_43 : decode cX11_rule 43 = .ok (.ifCond .eq 40, 3) := by decide +kernel
theorem dX11_rule_46 : decode cX11_rule 46 = .ok (.iload 4, 2) := by decide +kernel
theorem dX11_rule_48 : decode cX11_rule 48 = .ok (.i2l, 1) := by decide +kernel
theorem dX11_rule_49 : decode cX11_rule 49 = .ok (.lconst 0, 1) := by decide +kernel
theorem dX11_rule_50 : decode cX11_rule 50 = .ok (.ldc2_w 154, 3) := by decide +kernel
theorem dX11_rule_53 : decode cX11_rule 53 = .ok (.invokestatic 138, 3) := by decide +kernel
theorem dX11_rule_56 : decode cX11_rule 56 = .ok (.ifCond .eq 27, 3) := by decide +kernel
theorem dX11_rule_59 : decode cX11_rule 59 = .ok (.iload 4, 2) := by decide +kernel
theorem dX11_rule_61 : decode cX11_rule 61 = .ok (.sipush 10000, 3) := by decide +kernel
theorem dX11_rule_64 : decode cX11_rule 64 = .ok (.idiv, 1) := by decide +kernel
theorem dX11_rule_65 : decode cX11_rule 65 = .ok (.sipush 2000, 3) := by decide +kernel
theorem dX11_rule_68 : decode cX11_rule 68 = .ok (.if_icmp .gt 15, 3) := by decide +kernel
theorem dX11_rule_71 : decode cX11_rule 71 = .ok (.iload 4, 2) := by decide +kernel
theorem dX11_rule_73 : decode cX11_rule 73 = .ok (.sipush 10000, 3) := by decide +kernel
theorem dX11_rule_76 : decode cX11_rule 76 = .ok (.irem, 1) := by decide +kernel
theorem dX11_rule_77 : decode cX11_rule 77 = .ok (.sipush 2000, 3) := by decide +kernel
theorem dX11_rule_80 : decode cX11_rule 80 = .ok (.if_icmp .le 6, 3) := by decide +kernel
theorem dX11_rule_83 : decode cX11_rule 83 = .ok (.bipush (-3), 2) := by decide +kernel
theorem dX11_rule_85 : decode cX11_rule 85 = .ok (.ireturn, 1) := by decide +kernel
theorem dX11_rule_86 : decode cX11_rule 86 = .ok (.aload_n 0, 1) := by decide +kernel
theorem dX11_rule_87 : decode cX11_rule 87 = .ok (.getfield 127, 3) := by decide +kernel
theorem dX11_rule_90 : decode cX11_rule 90 = .ok (.bipush 32, 2) := by decide +kernel
theorem dX11_rule_92 : decode cX11_rule 92 = .ok (.if_icmp .ne 6, 3) := by decide +kernel
theorem dX11_rule_95 : decode cX11_rule 95 = .ok (.bipush (-5), 2) := by decide +kernel
theorem dX11_rule_97 : decode cX11_rule 97 = .ok (.ireturn, 1) := by decide +kernel
theorem dX11_rule_98 : decode cX11_rule 98 = .ok (.aload_n 0, 1) := by decide +kernel
theorem dX11_rule_99 : decode cX11_rule 99 = .ok (.iload_n 1, 1) := by decide +kernel
theorem dX11_rule_100 : decode cX11_rule 100 = .ok (.iload_n 2, 1) := by decide +kernel
theorem dX11_rule_101 : decode cX11_rule 101 = .ok (.iload_n 3, 1) := by decide +kernel
theorem dX11_rule_102 : decode cX11_rule 102 = .ok (.invokevirtual 123, 3) := by decide +kernel
theorem dX11_rule_105 : decode cX11_rule 105 = .ok (.aload_n 0, 1) := by decide +kernel
theorem dX11_rule_106 : decode cX11_rule 106 = .ok (.getfield 19, 3) := by decide +kernel
theorem dX11_rule_109 : decode cX11_rule 109 = .ok (.aload_n 0, 1) := by decide +kernel
theorem dX11_rule_110 : decode cX11_rule 110 = .ok (.getfield 127, 3) := by decide +kernel
theorem dX11_rule_113 : decode cX11_rule 113 = .ok (.iconst 1, 1) := by decide +kernel
theorem dX11_rule_114 : decode cX11_rule 114 = .ok (.isub, 1) := by decide +kernel
theorem dX11_rule_115 : decode cX11_rule 115 = .ok (.iload 4, 2) := by decide +kernel
theorem dX11_rule_117 : decode cX11_rule 117 = .ok (.sipush 10000, 3) := by decide +kernel
theorem dX11_rule_120 : decode cX11_rule 120 = .ok (.idiv, 1) := by decide +kernel
theorem dX11_rule_121 : decode cX11_rule 121 = .ok (.sipush 1000, 3) := by decide +kernel
theorem dX11_rule_124 : decode cX11_rule 124 = .ok (.isub, 1) := by decide +kernel
theorem dX11_rule_125 : decode cX11_rule 125 = .ok (.iastore, 1) := by decide +kernel
theorem dX11_rule_126 : decode cX11_rule 126 = .ok (.aload_n 0, 1) := by decide +kernel
theorem dX11_rule_127 : decode cX11_rule 127 = .ok (.getfield 22, 3) := by decide +kernel
theorem dX11_rule_130 : decode cX11_rule 130 = .ok (.aload_n 0, 1) := by decide +kernel
theorem dX11_rule_131 : decode cX11_rule 131 = .ok (.getfield 127, 3) := by decide +kernel
theorem dX11_rule_134 : decode cX11_rule 134 = .ok (.iconst 1, 1) := by decide +kernel
theorem dX11_rule_135 : decode cX11_rule 135 = .ok (.isub, 1) := by decide +kernel
theorem dX11_rule_136 : decode cX11_rule 136 = .ok (.iload 4, 2) := by decide +kernel
theorem dX11_rule_138 : decode cX11_rule 138 = .ok (.sipush 10000, 3) := by decide +kernel
theorem dX11_rule_141 : decode cX11_rule 141 = .ok (.irem, 1) := by decide +kernel
theorem dX11_rule_142 : decode cX11_rule 142 = .ok (.sipush 1000, 3) := by decide +kernel
theorem dX11_rule_145 : decode cX11_rule 145 = .ok (.isub, 1) := by decide +kernel
theorem dX11_rule_146 : decode cX11_rule 146 = .ok (.iastore, 1) := by decide +kernel
theorem dX11_rule_147 : decode cX11_rule 147 = .ok (.aload_n 0, 1) := by decide +kernel
theorem dX11_rule_148 : decode cX11_rule 148 = .ok (.getfield 127, 3) := by decide +kernel
theorem dX11_rule_151 : decode cX11_rule 151 = .ok (.iconst 1, 1) := by decide +kernel
theorem dX11_rule_152 : decode cX11_rule 152 = .ok (.isub, 1) := by decide +kernel
theorem dX11_rule_153 : decode cX11_rule 153 = .ok (.ireturn, 1) := by decide +kernel
theorem dX11_drop_0 : decode cX11_drop 0 = .ok (.aload_n 0, 1) := by decide +kernel
theorem dX11_drop_1 : decode cX11_drop 1 = .ok (.iconst 0, 1) := by decide +kernel
theorem dX11_drop_2 : decode cX11_drop 2 = .ok (.putfield 131, 3) := by decide +kernel
theorem dX11_drop_5 : decode cX11_drop 5 = .ok (.iload_n 1, 1) := by decide +kernel
theorem dX11_drop_6 : decode cX11_drop 6 = .ok (.i2l, 1) := by decide +kernel
theorem dX11_drop_7 : decode cX11_drop 7 = .ok (.ldc2_w 156, 3) := by decide +kernel
theorem dX11_drop_10 : decode cX11_drop 10 = .ok (.aload_n 0, 1) := by decide +kernel
theorem dX11_drop_11 : decode cX11_drop 11 = .ok (.getfield 127, 3) := by decide +kernel
theorem dX11_drop_14 : decode cX11_drop 14 = .ok (.iconst 1, 1) := by decide +kernel
theorem dX11_drop_15 : decode cX11_drop 15 = .ok (.isub, 1) := by decide +kernel
theorem dX11_drop_16 : decode cX11_drop 16 = .ok (.i2l, 1) := by decide +kernel
theorem dX11_drop_17 : decode cX11_drop 17 = .ok (.invokestatic 138, 3) := by decide +kernel
theorem dX11_drop_20 : decode cX11_drop 20 = .ok (.ifCond .eq 12, 3) := by decide +kernel
theorem dX11_drop_23 : decode cX11_drop 23 = .ok (.aload_n 0, 1) := by decide +kernel
theorem dX11_drop_24 : decode cX11_drop 24 = .ok (.getfield 25, 3) := by decide +kernel
theorem dX11_drop_27 : decode cX11_drop 27 = .ok (.iload_n 1, 1) := by decide +kernel
theorem dX11_drop_28 : decode cX11_drop 28 = .ok (.baload, 1) := by decide +kernel
theorem dX11_drop_29 : decode cX11_drop 29 = .ok (.ifCond .ne 6, 3) := by decide +kernel
theorem dX11_drop_32 : decode cX11_drop 32 = .ok (.bipush (-2), 2) := by decide +kernel
theorem dX11_drop_34 : decode cX11_drop 34 = .ok (.ireturn, 1) := by decide +kernel
theorem dX11_drop_35 : decode cX11_drop 35 = .ok (.aload_n 0, 1) := by decide +kernel
theorem dX11_drop_36 : decode cX11_drop 36 = .ok (.getfield 25, 3) := by decide +kernel
theorem dX11_drop_39 : decode cX11_drop 39 = .ok (.iload_n 1, 1) := by decide +kernel
theorem dX11_drop_40 : decode cX11_drop 40 = .ok (.iconst 0, 1) := by decide +kernel
theorem dX11_drop_41 : decode cX11_drop 41 = .ok (.bastore, 1) := by decide +kernel
theorem dX11_drop_42 : decode cX11_drop 42 = .ok (.iconst 1, 1) := by decide +kernel
theorem dX11_drop_43 : decode cX11_drop 43 = .ok (.ireturn, 1) := by decide +kernel
theorem dX11_apply_0 : decode cX11_apply 0 = .ok (.iload_n 1, 1) := by decide +kernel
theorem dX11_apply_1 : decode cX11_apply 1 = .ok (.bipush 7, 2) := by decide +kernel
theorem dX11_apply_3 : decode cX11_apply 3 = .ok (.if_icmp .ne 20, 3) := by decide +kernel
theorem dX11_apply_6 : decode cX11_apply 6 = .ok (.aload_n 0, 1) := by decide +kernel
