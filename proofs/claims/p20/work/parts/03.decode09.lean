theorem dX11_apply_7 : decode cX11_apply 7 = .ok (.lload_n 2, 1) := by decide +kernel
theorem dX11_apply_8 : decode cX11_apply 8 = .ok (.lconst 0, 1) := by decide +kernel
theorem dX11_apply_9 : decode cX11_apply 9 = .ok (.lcmp, 1) := by decide +kernel
theorem dX11_apply_10 : decode cX11_apply 10 = .ok (.ifCond .ne 7, 3) := by decide +kernel
theorem dX11_apply_13 : decode cX11_apply 13 = .ok (.lconst 0, 1) := by decide +kernel
theorem dX11_apply_14 : decode cX11_apply 14 = .ok (.goto 4, 3) := by decide +kernel
theorem dX11_apply_17 : decode cX11_apply 17 = .ok (.lconst 1, 1) := by decide +kernel
theorem dX11_apply_18 : decode cX11_apply 18 = .ok (.putfield 158, 3) := by decide +kernel
theorem dX11_apply_21 : decode cX11_apply 21 = .ok (.iconst 1, 1) := by decide +kernel
theorem dX11_apply_22 : decode cX11_apply 22 = .ok (.ireturn, 1) := by decide +kernel
theorem dX11_apply_23 : decode cX11_apply 23 = .ok (.iload_n 1, 1) := by decide +kernel
theorem dX11_apply_24 : decode cX11_apply 24 = .ok (.bipush 9, 2) := by decide +kernel
theorem dX11_apply_26 : decode cX11_apply 26 = .ok (.if_icmp .ne 14, 3) := by decide +kernel
theorem dX11_apply_29 : decode cX11_apply 29 = .ok (.aload_n 0, 1) := by decide +kernel
theorem dX11_apply_30 : decode cX11_apply 30 = .ok (.lload_n 2, 1) := by decide +kernel
theorem dX11_apply_31 : decode cX11_apply 31 = .ok (.ldc2_w 162, 3) := by decide +kernel
theorem dX11_apply_34 : decode cX11_apply 34 = .ok (.ldiv, 1) := by decide +kernel
theorem dX11_apply_35 : decode cX11_apply 35 = .ok (.putfield 158, 3) := by decide +kernel
theorem dX11_apply_38 : decode cX11_apply 38 = .ok (.iconst 1, 1) := by decide +kernel
theorem dX11_apply_39 : decode cX11_apply 39 = .ok (.ireturn, 1) := by decide +kernel
theorem dX11_apply_40 : decode cX11_apply 40 = .ok (.iload_n 1, 1) := by decide +kernel
theorem dX11_apply_41 : decode cX11_apply 41 = .ok (.bipush 8, 2) := by decide +kernel
theorem dX11_apply_43 : decode cX11_apply 43 = .ok (.if_icmp .ne 9, 3) := by decide +kernel
theorem dX11_apply_46 : decode cX11_apply 46 = .ok (.ldc2_w 162, 3) := by decide +kernel
theorem dX11_apply_49 : decode cX11_apply 49 = .ok (.goto 10, 3) := by decide +kernel
theorem dX11_apply_52 : decode cX11_apply 52 = .ok (.aload_n 0, 1) := by decide +kernel
theorem dX11_apply_53 : decode cX11_apply 53 = .ok (.getfield 19, 3) := by decide +kernel
theorem dX11_apply_56 : decode cX11_apply 56 = .ok (.iload_n 1, 1) := by decide +kernel
theorem dX11_apply_57 : decode cX11_apply 57 = .ok (.iaload, 1) := by decide +kernel
theorem dX11_apply_58 : decode cX11_apply 58 = .ok (.i2l, 1) := by decide +kernel
theorem dX11_apply_59 : decode cX11_apply 59 = .ok (.lstore 4, 2) := by decide +kernel
theorem dX11_apply_61 : decode cX11_apply 61 = .ok (.aload_n 0, 1) := by decide +kernel
theorem dX11_apply_62 : decode cX11_apply 62 = .ok (.getfield 22, 3) := by decide +kernel
theorem dX11_apply_65 : decode cX11_apply 65 = .ok (.iload_n 1, 1) := by decide +kernel
theorem dX11_apply_66 : decode cX11_apply 66 = .ok (.iaload, 1) := by decide +kernel
theorem dX11_apply_67 : decode cX11_apply 67 = .ok (.i2l, 1) := by decide +kernel
theorem dX11_apply_68 : decode cX11_apply 68 = .ok (.lstore 6, 2) := by decide +kernel
theorem dX11_apply_70 : decode cX11_apply 70 = .ok (.lload_n 2, 1) := by decide +kernel
theorem dX11_apply_71 : decode cX11_apply 71 = .ok (.lload 4, 2) := by decide +kernel
theorem dX11_apply_73 : decode cX11_apply 73 = .ok (.invokestatic 164, 3) := by decide +kernel
theorem dX11_apply_76 : decode cX11_apply 76 = .ok (.lstore 8, 2) := by decide +kernel
theorem dX11_apply_78 : decode cX11_apply 78 = .ok (.lload_n 2, 1) := by decide +kernel
theorem dX11_apply_79 : decode cX11_apply 79 = .ok (.lload 4, 2) := by decide +kernel
theorem dX11_apply_81 : decode cX11_apply 81 = .ok (.lmul, 1) := by decide +kernel
theorem dX11_apply_82 : decode cX11_apply 82 = .ok (.lstore 10, 2) := by decide +kernel
theorem dX11_apply_84 : decode cX11_apply 84 = .ok (.lload 10, 2) := by decide +kernel
theorem dX11_apply_86 : decode cX11_apply 86 = .ok (.lload 6, 2) := by decide +kernel
theorem dX11_apply_88 : decode cX11_apply 88 = .ok (.ladd, 1) := by decide +kernel
theorem dX11_apply_89 : decode cX11_apply 89 = .ok (.lstore 12, 2) := by decide +kernel
theorem dX11_apply_91 : decode cX11_apply 91 = .ok (.lload 8, 2) := by decide +kernel
theorem dX11_apply_93 : decode cX11_apply 93 = .ok (.lload 6, 2) := by decide +kernel
theorem dX11_apply_95 : decode cX11_apply 95 = .ok (.bipush 63, 2) := by decide +kernel
theorem dX11_apply_97 : decode cX11_apply 97 = .ok (.lshr, 1) := by decide +kernel
theorem dX11_apply_98 : decode cX11_apply 98 = .ok (.ladd, 1) := by decide +kernel
theorem dX11_apply_99 : decode cX11_apply 99 = .ok (.lstore 8, 2) := by decide +kernel
theorem dX11_apply_101 : decode cX11_apply 101 = .ok (.lload 8, 2) := by decide +kernel
theorem dX11_apply_103 : decode cX11_apply 103 = .ok (.lload 12, 2) := by decide +kernel
theorem dX11_apply_105 : decode cX11_apply 105 = .ok (.lload 10, 2) := by decide +kernel
theorem dX11_apply_107 : decode cX11_apply 107 = .ok (.invokestatic 170, 3) := by decide +kernel
theorem dX11_apply_110 : decode cX11_apply 110 = .ok (.ifCond .ge 7, 3) := by decide +kernel
theorem dX11_apply_113 : decode cX11_apply 113 = .ok (.lconst 1, 1) := by decide +kernel
theorem dX11_apply_114 : decode cX11_apply 114 = .ok (.goto 4, 3) := by decide +kernel
theorem dX11_apply_117 : decode cX11_apply 117 = .ok (.lconst 0, 1) := by decide +kernel
theorem dX11_apply_118 : decode cX11_apply 118 = .ok (.ladd, 1) := by decide +kernel
theorem dX11_apply_119 : decode cX11_apply 119 = .ok (.lstore 8, 2) := by decide +kernel
theorem dX11_apply_121 : decode cX11_apply 121 = .ok (.aload_n 0, 1) := by decide +kernel
theorem dX11_apply_122 : decode cX11_apply 122 = .ok (.lload 12, 2) := by decide +kernel
theorem dX11_apply_124 : decode cX11_apply 124 = .ok (.putfield 158, 3) := by decide +kernel
theorem dX11_apply_127 : decode cX11_apply 127 = .ok (.lload 8, 2) := by decide +kernel
theorem dX11_apply_129 : decode cX11_apply 129 = .ok (.lload 12, 2) := by decide +kernel
theorem dX11_apply_131 : decode cX11_apply 131 = .ok (.bipush 63, 2) := by decide +kernel
theorem dX11_apply_133 : decode cX11_apply 133 = .ok (.lshr, 1) := by decide +kernel
theorem dX11_apply_134 : decode cX11_apply 134 = .ok (.lcmp, 1) := by decide +kernel
theorem dX11_apply_135 : decode cX11_apply 135 = .ok (.ifCond .ne 21, 3) := by decide +kernel
theorem dX11_apply_138 : decode cX11_apply 138 = .ok (.aload_n 0, 1) := by decide +kernel
theorem dX11_apply_139 : decode cX11_apply 139 = .ok (.getfield 13, 3) := by decide +kernel
theorem dX11_apply_142 : decode cX11_apply 142 = .ok (.iload_n 1, 1) := by decide +kernel
theorem dX11_apply_143 : decode cX11_apply 143 = .ok (.iaload, 1) := by decide +kernel
theorem dX11_apply_144 : decode cX11_apply 144 = .ok (.lload 12, 2) := by decide +kernel
theorem dX11_apply_146 : decode cX11_apply 146 = .ok (.invokestatic 176, 3) := by decide +kernel
theorem dX11_apply_149 : decode cX11_apply 149 = .ok (.ifCond .eq 7, 3) := by decide +kernel
theorem dX11_apply_152 : decode cX11_apply 152 = .ok (.iconst 1, 1) := by decide +kernel
theorem dX11_apply_153 : decode cX11_apply 153 = .ok (.goto 4, 3) := by decide +kernel
theorem dX11_apply_156 : decode cX11_apply 156 = .ok (.iconst 0, 1) := by decide +kernel
theorem dX11_apply_157 : decode cX11_apply 157 = .ok (.ireturn, 1) := by decide +kernel
theorem dX11_isAhead_0 : decode cX11_isAhead 0 = .ok (.iconst 0, 1) := by decide +kernel
theorem dX11_isAhead_1 : decode cX11_isAhead 1 = .ok (.istore 5, 2) := by decide +kernel
theorem dX11_isAhead_3 : decode cX11_isAhead 3 = .ok (.iload 5, 2) := by decide +kernel
theorem dX11_isAhead_5 : decode cX11_isAhead 5 = .ok (.iload 4, 2) := by decide +kernel
theorem dX11_isAhead_7 : decode cX11_isAhead 7 = .ok (.if_icmp .ge 67, 3) := by decide +kernel
theorem dX11_isAhead_10 : decode cX11_isAhead 10 = .ok (.iload 5, 2) := by decide +kernel
theorem dX11_isAhead_12 : decode cX11_isAhead 12 = .ok (.iload 4, 2) := by decide +kernel
theorem dX11_isAhead_14 : decode cX11_isAhead 14 = .ok (.iconst 1, 1) := by decide +kernel
theorem dX11_isAhead_15 : decode cX11_isAhead 15 = .ok (.isub, 1) := by decide +kernel
theorem dX11_isAhead_16 : decode cX11_isAhead 16 = .ok (.if_icmp .ne 7, 3) := by decide +kernel
theorem dX11_isAhead_19 : decode cX11_isAhead 19 = .ok (.iload_n 2, 1) := by decide +kernel
theorem dX11_isAhead_20 : decode cX11_isAhead 20 = .ok (.goto 12, 3) := by decide +kernel
theorem dX11_isAhead_23 : decode cX11_isAhead 23 = .ok (.aload_n 0, 1) := by decide +kernel
theorem dX11_isAhead_24 : decode cX11_isAhead 24 = .ok (.getfield 87, 3) := by decide +kernel
theorem dX11_isAhead_27 : decode cX11_isAhead 27 = .ok (.iload_n 1, 1) := by decide +kernel
theorem dX11_isAhead_28 : decode cX11_isAhead 28 = .ok (.iload 5, 2) := by decide +kernel
theorem dX11_isAhead_30 : decode cX11_isAhead 30 = .ok (.iadd, 1) := by decide +kernel
theorem dX11_isAhead_31 : decode cX11_isAhead 31 = .ok (.iaload, 1) := by decide +kernel
theorem dX11_isAhead_32 : decode cX11_isAhead 32 = .ok (.istore 6, 2) := by decide +kernel
theorem dX11_isAhead_34 : decode cX11_isAhead 34 = .ok (.iload 6, 2) := by decide +kernel
theorem dX11_isAhead_36 : decode cX11_isAhead 36 = .ok (.aload_n 0, 1) := by decide +kernel
theorem dX11_isAhead_37 : decode cX11_isAhead 37 = .ok (.getfield 87, 3) := by decide +kernel
theorem dX11_isAhead_40 : decode cX11_isAhead 40 = .ok (.iload_n 3, 1) := by decide +kernel
theorem dX11_isAhead_41 : decode cX11_isAhead 41 = .ok (.iload 5, 2) := by decide +kernel
theorem dX11_isAhead_43 : decode cX11_isAhead 43 = .ok (.iadd, 1) := by decide +kernel
theorem dX11_isAhead_44 : decode cX11_isAhead 44 = .ok (.iaload, 1) := by decide +kernel
theorem dX11_isAhead_45 : decode cX11_isAhead 45 = .ok (.if_icmp .eq 23, 3) := by decide +kernel
theorem dX11_isAhead_48 : decode cX11_isAhead 48 = .ok (.iload 6, 2) := by decide +kernel
theorem dX11_isAhead_50 : decode cX11_isAhead 50 = .ok (.aload_n 0, 1) := by decide +kernel
theorem dX11_isAhead_51 : decode cX11_isAhead 51 = .ok (.getfield 87, 3) := by decide +kernel
theorem dX11_isAhead_54 : decode cX11_isAhead 54 = .ok (.iload_n 3, 1) := by decide +kernel
theorem dX11_isAhead_55 : decode cX11_isAhead 55 = .ok (.iload 5, 2) := by decide +kernel
theorem dX11_isAhead_57 : decode cX11_isAhead 57 = .ok (.iadd, 1) := by decide +kernel
theorem dX11_isAhead_58 : decode cX11_isAhead 58 = .ok (.iaload, 1) := by decide +kernel
theorem dX11_isAhead_59 : decode cX11_isAhead 59 = .ok (.if_icmp .ge 7, 3) := by decide +kernel
theorem dX11_isAhead_62 : decode cX11_isAhead 62 = .ok (.iconst 1, 1) := by decide +kernel
theorem dX11_isAhead_63 : decode cX11_isAhead 63 = .ok (.goto 4, 3) := by decide +kernel
theorem dX11_isAhead_66 : decode cX11_isAhead 66 = .ok (.iconst 0, 1) := by decide +kernel
theorem dX11_isAhead_67 : decode cX11_isAhead 67 = .ok (.ireturn, 1) := by decide +kernel
theorem dX11_isAhead_68 : decode cX11_isAhead 68 = .ok (.iinc 5 1, 3) := by decide +kernel
theorem dX11_isAhead_71 : decode cX11_isAhead 71 = .ok (.goto (-68), 3) := by decide +kernel
theorem dX11_isAhead_74 : decode cX11_isAhead 74 = .ok (.iconst 0, 1) := by decide +kernel
theorem dX11_isAhead_75 : decode cX11_isAhead 75 = .ok (.ireturn, 1) := by decide +kernel
theorem dX11_turningsFrom_0 : decode cX11_turningsFrom 0 = .ok (.iconst 0, 1) := by decide +kernel
theorem dX11_turningsFrom_1 : decode cX11_turningsFrom 1 = .ok (.istore_n 2, 1) := by decide +kernel
theorem dX11_turningsFrom_2 : decode cX11_turningsFrom 2 = .ok (.iload_n 2, 1) := by decide +kernel
theorem dX11_turningsFrom_3 : decode cX11_turningsFrom 3 = .ok (.bipush 49, 2) := by decide +kernel
theorem dX11_turningsFrom_5 : decode cX11_turningsFrom 5 = .ok (.if_icmp .ge 26, 3) := by decide +kernel
theorem dX11_turningsFrom_8 : decode cX11_turningsFrom 8 = .ok (.aload_n 0, 1) := by decide +kernel
theorem dX11_turningsFrom_9 : decode cX11_turningsFrom 9 = .ok (.getfield 84, 3) := by decide +kernel
theorem dX11_turningsFrom_12 : decode cX11_turningsFrom 12 = .ok (.iload_n 2, 1) := by decide +kernel
theorem dX11_turningsFrom_13 : decode cX11_turningsFrom 13 = .ok (.iload_n 2, 1) := by decide +kernel
theorem dX11_turningsFrom_14 : decode cX11_turningsFrom 14 = .ok (.iload_n 1, 1) := by decide +kernel
theorem dX11_turningsFrom_15 : decode cX11_turningsFrom 15 = .ok (.if_icmp .ne 7, 3) := by decide +kernel
theorem dX11_turningsFrom_18 : decode cX11_turningsFrom 18 = .ok (.iconst 0, 1) := by decide +kernel
theorem dX11_turningsFrom_19 : decode cX11_turningsFrom 19 = .ok (.goto 5, 3) := by decide +kernel
theorem dX11_turningsFrom_22 : decode cX11_turningsFrom 22 = .ok (.ldc 180, 2) := by decide +kernel
theorem dX11_turningsFrom_24 : decode cX11_turningsFrom 24 = .ok (.iastore, 1) := by decide +kernel
theorem dX11_turningsFrom_25 : decode cX11_turningsFrom 25 = .ok (.iinc 2 1, 3) := by decide +kernel
theorem dX11_turningsFrom_28 : decode cX11_turningsFrom 28 = .ok (.goto (-26), 3) := by decide +kernel
theorem dX11_turningsFrom_31 : decode cX11_turningsFrom 31 = .ok (.iconst 1, 1) := by decide +kernel
theorem dX11_turningsFrom_32 : decode cX11_turningsFrom 32 = .ok (.istore_n 2, 1) := by decide +kernel
theorem dX11_turningsFrom_33 : decode cX11_turningsFrom 33 = .ok (.iload_n 2, 1) := by decide +kernel
theorem dX11_turningsFrom_34 : decode cX11_turningsFrom 34 = .ok (.bipush 7, 2) := by decide +kernel
theorem dX11_turningsFrom_36 : decode cX11_turningsFrom 36 = .ok (.if_icmp .ge 219, 3) := by decide +kernel
theorem dX11_turningsFrom_39 : decode cX11_turningsFrom 39 = .ok (.iconst 0, 1) := by decide +kernel
theorem dX11_turningsFrom_40 : decode cX11_turningsFrom 40 = .ok (.istore_n 3, 1) := by decide +kernel
theorem dX11_turningsFrom_41 : decode cX11_turningsFrom 41 = .ok (.iload_n 3, 1) := by decide +kernel
theorem dX11_turningsFrom_42 : decode cX11_turningsFrom 42 = .ok (.aload_n 0, 1) := by decide +kernel
theorem dX11_turningsFrom_43 : decode cX11_turningsFrom 43 = .ok (.getfield 127, 3) := by decide +kernel
theorem dX11_turningsFrom_46 : decode cX11_turningsFrom 46 = .ok (.if_icmp .ge 203, 3) := by decide +kernel
theorem dX11_turningsFrom_49 : decode cX11_turningsFrom 49 = .ok (.aload_n 0, 1) := by decide +kernel
theorem dX11_turningsFrom_50 : decode cX11_turningsFrom 50 = .ok (.getfield 84, 3) := by decide +kernel
theorem dX11_turningsFrom_53 : decode cX11_turningsFrom 53 = .ok (.bipush 7, 2) := by decide +kernel
theorem dX11_turningsFrom_55 : decode cX11_turningsFrom 55 = .ok (.iload_n 2, 1) := by decide +kernel
theorem dX11_turningsFrom_56 : decode cX11_turningsFrom 56 = .ok (.iconst 1, 1) := by decide +kernel
theorem dX11_turningsFrom_57 : decode cX11_turningsFrom 57 = .ok (.isub, 1) := by decide +kernel
theorem dX11_turningsFrom_58 : decode cX11_turningsFrom 58 = .ok (.imul, 1) := by decide +kernel
theorem dX11_turningsFrom_59 : decode cX11_turningsFrom 59 = .ok (.aload_n 0, 1) := by decide +kernel
theorem dX11_turningsFrom_60 : decode cX11_turningsFrom 60 = .ok (.getfield 7, 3) := by decide +kernel
theorem dX11_turningsFrom_63 : decode cX11_turningsFrom 63 = .ok (.iload_n 3, 1) := by decide +kernel
theorem dX11_turningsFrom_64 : decode cX11_turningsFrom 64 = .ok (.iaload, 1) := by decide +kernel
theorem dX11_turningsFrom_65 : decode cX11_turningsFrom 65 = .ok (.iadd, 1) := by decide +kernel
theorem dX11_turningsFrom_66 : decode cX11_turningsFrom 66 = .ok (.iaload, 1) := by decide +kernel
theorem dX11_turningsFrom_67 : decode cX11_turningsFrom 67 = .ok (.istore 4, 2) := by decide +kernel
theorem dX11_turningsFrom_69 : decode cX11_turningsFrom 69 = .ok (.bipush 7, 2) := by decide +kernel
theorem dX11_turningsFrom_71 : decode cX11_turningsFrom 71 = .ok (.iload_n 2, 1) := by decide +kernel
theorem dX11_turningsFrom_72 : decode cX11_turningsFrom 72 = .ok (.imul, 1) := by decide +kernel
theorem dX11_turningsFrom_73 : decode cX11_turningsFrom 73 = .ok (.aload_n 0, 1) := by decide +kernel
theorem dX11_turningsFrom_74 : decode cX11_turningsFrom 74 = .ok (.getfield 13, 3) := by decide +kernel
theorem dX11_turningsFrom_77 : decode cX11_turningsFrom 77 = .ok (.iload_n 3, 1) := by decide +kernel
theorem dX11_turningsFrom_78 : decode cX11_turningsFrom 78 = .ok (.iaload, 1) := by decide +kernel
theorem dX11_turningsFrom_79 : decode cX11_turningsFrom 79 = .ok (.iadd, 1) := by decide +kernel
theorem dX11_turningsFrom_80 : decode cX11_turningsFrom 80 = .ok (.istore 5, 2) := by decide +kernel
theorem dX11_turningsFrom_82 : decode cX11_turningsFrom 82 = .ok (.bipush 6, 2) := by decide +kernel
theorem dX11_turningsFrom_84 : decode cX11_turningsFrom 84 = .ok (.bipush 7, 2) := by decide +kernel
theorem dX11_turningsFrom_86 : decode cX11_turningsFrom 86 = .ok (.iload_n 2, 1) := by decide +kernel
theorem dX11_turningsFrom_87 : decode cX11_turningsFrom 87 = .ok (.iconst 1, 1) := by decide +kernel
theorem dX11_turningsFrom_88 : decode cX11_turningsFrom 88 = .ok (.isub, 1) := by decide +kernel
theorem dX11_turningsFrom_89 : decode cX11_turningsFrom 89 = .ok (.imul, 1) := by decide +kernel
theorem dX11_turningsFrom_90 : decode cX11_turningsFrom 90 = .ok (.aload_n 0, 1) := by decide +kernel
theorem dX11_turningsFrom_91 : decode cX11_turningsFrom 91 = .ok (.getfield 7, 3) := by decide +kernel
theorem dX11_turningsFrom_94 : decode cX11_turningsFrom 94 = .ok (.iload_n 3, 1) := by decide +kernel
theorem dX11_turningsFrom_95 : decode cX11_turningsFrom 95 = .ok (.iaload, 1) := by decide +kernel
theorem dX11_turningsFrom_96 : decode cX11_turningsFrom 96 = .ok (.iadd, 1) := by decide +kernel
theorem dX11_turningsFrom_97 : decode cX11_turningsFrom 97 = .ok (.imul, 1) := by decide +kernel
theorem dX11_turningsFrom_98 : decode cX11_turningsFrom 98 = .ok (.istore 6, 2) := by decide +kernel
theorem dX11_turningsFrom_100 : decode cX11_turningsFrom 100 = .ok (.iload 4, 2) := by decide +kernel
theorem dX11_turningsFrom_102 : decode cX11_turningsFrom 102 = .ok (.aload_n 0, 1) := by decide +kernel
theorem dX11_turningsFrom_103 : decode cX11_turningsFrom 103 = .ok (.getfield 16, 3) := by decide +kernel
theorem dX11_turningsFrom_106 : decode cX11_turningsFrom 106 = .ok (.iload_n 3, 1) := by decide +kernel
theorem dX11_turningsFrom_107 : decode cX11_turningsFrom 107 = .ok (.iaload, 1) := by decide +kernel
theorem dX11_turningsFrom_108 : decode cX11_turningsFrom 108 = .ok (.iadd, 1) := by decide +kernel
theorem dX11_turningsFrom_109 : decode cX11_turningsFrom 109 = .ok (.istore 7, 2) := by decide +kernel
theorem dX11_turningsFrom_111 : decode cX11_turningsFrom 111 = .ok (.aload_n 0, 1) := by decide +kernel
theorem dX11_turningsFrom_112 : decode cX11_turningsFrom 112 = .ok (.getfield 25, 3) := by decide +kernel
theorem dX11_turningsFrom_115 : decode cX11_turningsFrom 115 = .ok (.iload_n 3, 1) := by decide +kernel
theorem dX11_turningsFrom_116 : decode cX11_turningsFrom 116 = .ok (.baload, 1) := by decide +kernel
theorem dX11_turningsFrom_117 : decode cX11_turningsFrom 117 = .ok (.ifCond .eq 54, 3) := by decide +kernel
theorem dX11_turningsFrom_120 : decode cX11_turningsFrom 120 = .ok (.iload 4, 2) := by decide +kernel
theorem dX11_turningsFrom_122 : decode cX11_turningsFrom 122 = .ok (.ldc 180, 2) := by decide +kernel
theorem dX11_turningsFrom_124 : decode cX11_turningsFrom 124 = .ok (.if_icmp .ge 47, 3) := by decide +kernel
theorem dX11_turningsFrom_127 : decode cX11_turningsFrom 127 = .ok (.iload 7, 2) := by decide +kernel
theorem dX11_turningsFrom_129 : decode cX11_turningsFrom 129 = .ok (.aload_n 0, 1) := by decide +kernel
theorem dX11_turningsFrom_130 : decode cX11_turningsFrom 130 = .ok (.getfield 84, 3) := by decide +kernel
theorem dX11_turningsFrom_133 : decode cX11_turningsFrom 133 = .ok (.iload 5, 2) := by decide +kernel
theorem dX11_turningsFrom_135 : decode cX11_turningsFrom 135 = .ok (.iaload, 1) := by decide +kernel
theorem dX11_turningsFrom_136 : decode cX11_turningsFrom 136 = .ok (.if_icmp .lt 31, 3) := by decide +kernel
theorem dX11_turningsFrom_139 : decode cX11_turningsFrom 139 = .ok (.iload 7, 2) := by decide +kernel
theorem dX11_turningsFrom_141 : decode cX11_turningsFrom 141 = .ok (.aload_n 0, 1) := by decide +kernel
theorem dX11_turningsFrom_142 : decode cX11_turningsFrom 142 = .ok (.getfield 84, 3) := by decide +kernel
theorem dX11_turningsFrom_145 : decode cX11_turningsFrom 145 = .ok (.iload 5, 2) := by decide +kernel
theorem dX11_turningsFrom_147 : decode cX11_turningsFrom 147 = .ok (.iaload, 1) := by decide +kernel
theorem dX11_turningsFrom_148 : decode cX11_turningsFrom 148 = .ok (.if_icmp .ne 23, 3) := by decide +kernel
theorem dX11_turningsFrom_151 : decode cX11_turningsFrom 151 = .ok (.aload_n 0, 1) := by decide +kernel
theorem dX11_turningsFrom_152 : decode cX11_turningsFrom 152 = .ok (.iload 6, 2) := by decide +kernel
theorem dX11_turningsFrom_154 : decode cX11_turningsFrom 154 = .ok (.iload_n 3, 1) := by decide +kernel
theorem dX11_turningsFrom_155 : decode cX11_turningsFrom 155 = .ok (.bipush 6, 2) := by decide +kernel
theorem dX11_turningsFrom_157 : decode cX11_turningsFrom 157 = .ok (.iload 5, 2) := by decide +kernel
theorem dX11_turningsFrom_159 : decode cX11_turningsFrom 159 = .ok (.imul, 1) := by decide +kernel
theorem dX11_turningsFrom_160 : decode cX11_turningsFrom 160 = .ok (.iload_n 2, 1) := by decide +kernel
theorem dX11_turningsFrom_161 : decode cX11_turningsFrom 161 = .ok (.invokevirtual 181, 3) := by decide +kernel
theorem dX11_turningsFrom_164 : decode cX11_turningsFrom 164 = .ok (.ifCond .eq 7, 3) := by decide +kernel
theorem dX11_turningsFrom_167 : decode cX11_turningsFrom 167 = .ok (.iconst 1, 1) := by decide +kernel
theorem dX11_turningsFrom_168 : decode cX11_turningsFrom 168 = .ok (.goto 4, 3) := by decide +kernel
theorem dX11_turningsFrom_171 : decode cX11_turningsFrom 171 = .ok (.iconst 0, 1) := by decide +kernel
theorem dX11_turningsFrom_172 : decode cX11_turningsFrom 172 = .ok (.istore 8, 2) := by decide +kernel
theorem dX11_turningsFrom_174 : decode cX11_turningsFrom 174 = .ok (.iload 8, 2) := by decide +kernel
theorem dX11_turningsFrom_176 : decode cX11_turningsFrom 176 = .ok (.ifCond .eq 67, 3) := by decide +kernel
theorem dX11_turningsFrom_179 : decode cX11_turningsFrom 179 = .ok (.aload_n 0, 1) := by decide +kernel
theorem dX11_turningsFrom_180 : decode cX11_turningsFrom 180 = .ok (.getfield 84, 3) := by decide +kernel
theorem dX11_turningsFrom_183 : decode cX11_turningsFrom 183 = .ok (.iload 5, 2) := by decide +kernel
theorem dX11_turningsFrom_185 : decode cX11_turningsFrom 185 = .ok (.iload 7, 2) := by decide +kernel
theorem dX11_turningsFrom_187 : decode cX11_turningsFrom 187 = .ok (.iastore, 1) := by decide +kernel
theorem dX11_turningsFrom_188 : decode cX11_turningsFrom 188 = .ok (.iconst 0, 1) := by decide +kernel
theorem dX11_turningsFrom_189 : decode cX11_turningsFrom 189 = .ok (.istore 9, 2) := by decide +kernel
theorem dX11_turningsFrom_191 : decode cX11_turningsFrom 191 = .ok (.iload 9, 2) := by decide +kernel
theorem dX11_turningsFrom_193 : decode cX11_turningsFrom 193 = .ok (.iload_n 2, 1) := by decide +kernel
theorem dX11_turningsFrom_194 : decode cX11_turningsFrom 194 = .ok (.iconst 1, 1) := by decide +kernel
theorem dX11_turningsFrom_195 : decode cX11_turningsFrom 195 = .ok (.isub, 1) := by decide +kernel
theorem dX11_turningsFrom_196 : decode cX11_turningsFrom 196 = .ok (.if_icmp .ge 32, 3) := by decide +kernel
theorem dX11_turningsFrom_199 : decode cX11_turningsFrom 199 = .ok (.aload_n 0, 1) := by decide +kernel
theorem dX11_turningsFrom_200 : decode cX11_turningsFrom 200 = .ok (.getfield 87, 3) := by decide +kernel
theorem dX11_turningsFrom_203 : decode cX11_turningsFrom 203 = .ok (.bipush 6, 2) := by decide +kernel
theorem dX11_turningsFrom_205 : decode cX11_turningsFrom 205 = .ok (.iload 5, 2) := by decide +kernel
theorem dX11_turningsFrom_207 : decode cX11_turningsFrom 207 = .ok (.imul, 1) := by decide +kernel
theorem dX11_turningsFrom_208 : decode cX11_turningsFrom 208 = .ok (.iload 9, 2) := by decide +kernel
theorem dX11_turningsFrom_210 : decode cX11_turningsFrom 210 = .ok (.iadd, 1) := by decide +kernel
theorem dX11_turningsFrom_211 : decode cX11_turningsFrom 211 = .ok (.aload_n 0, 1) := by decide +kernel
theorem dX11_turningsFrom_212 : decode cX11_turningsFrom 212 = .ok (.getfield 87, 3) := by decide +kernel
theorem dX11_turningsFrom_215 : decode cX11_turningsFrom 215 = .ok (.iload 6, 2) := by decide +kernel
theorem dX11_turningsFrom_217 : decode cX11_turningsFrom 217 = .ok (.iload 9, 2) := by decide +kernel
theorem dX11_turningsFrom_219 : decode cX11_turningsFrom 219 = .ok (.iadd, 1) := by decide +kernel
theorem dX11_turningsFrom_220 : decode cX11_turningsFrom 220 = .ok (.iaload, 1) := by decide +kernel
theorem dX11_turningsFrom_221 : decode cX11_turningsFrom 221 = .ok (.iastore, 1) := by decide +kernel
theorem dX11_turningsFrom_222 : decode cX11_turningsFrom 222 = .ok (.iinc 9 1, 3) := by decide +kernel
theorem dX11_turningsFrom_225 : decode cX11_turningsFrom 225 = .ok (.goto (-34), 3) := by decide +kernel
theorem dX11_turningsFrom_228 : decode cX11_turningsFrom 228 = .ok (.aload_n 0, 1) := by decide +kernel
theorem dX11_turningsFrom_229 : decode cX11_turningsFrom 229 = .ok (.getfield 87, 3) := by decide +kernel
theorem dX11_turningsFrom_232 : decode cX11_turningsFrom 232 = .ok (.bipush 6, 2) := by decide +kernel
theorem dX11_turningsFrom_234 : decode cX11_turningsFrom 234 = .ok (.iload 5, 2) := by decide +kernel
theorem dX11_turningsFrom_236 : decode cX11_turningsFrom 236 = .ok (.imul, 1) := by decide +kernel
theorem dX11_turningsFrom_237 : decode cX11_turningsFrom 237 = .ok (.iload_n 2, 1) := by decide +kernel
theorem dX11_turningsFrom_238 : decode cX11_turningsFrom 238 = .ok (.iadd, 1) := by decide +kernel
theorem dX11_turningsFrom_239 : decode cX11_turningsFrom 239 = .ok (.iconst 1, 1) := by decide +kernel
theorem dX11_turningsFrom_240 : decode cX11_turningsFrom 240 = .ok (.isub, 1) := by decide +kernel
theorem dX11_turningsFrom_241 : decode cX11_turningsFrom 241 = .ok (.iload_n 3, 1) := by decide +kernel
theorem dX11_turningsFrom_242 : decode cX11_turningsFrom 242 = .ok (.iastore, 1) := by decide +kernel
theorem dX11_turningsFrom_243 : decode cX11_turningsFrom 243 = .ok (.iinc 3 1, 3) := by decide +kernel
theorem dX11_turningsFrom_246 : decode cX11_turningsFrom 246 = .ok (.goto (-205), 3) := by decide +kernel
theorem dX11_turningsFrom_249 : decode cX11_turningsFrom 249 = .ok (.iinc 2 1, 3) := by decide +kernel
theorem dX11_turningsFrom_252 : decode cX11_turningsFrom 252 = .ok (.goto (-219), 3) := by decide +kernel
theorem dX11_turningsFrom_255 : decode cX11_turningsFrom 255 = .ok (.iconst 0, 1) := by decide +kernel
theorem dX11_turningsFrom_256 : decode cX11_turningsFrom 256 = .ok (.istore_n 2, 1) := by decide +kernel
theorem dX11_turningsFrom_257 : decode cX11_turningsFrom 257 = .ok (.iload_n 2, 1) := by decide +kernel
theorem dX11_turningsFrom_258 : decode cX11_turningsFrom 258 = .ok (.bipush 7, 2) := by decide +kernel
theorem dX11_turningsFrom_260 : decode cX11_turningsFrom 260 = .ok (.if_icmp .ge 139, 3) := by decide +kernel
theorem dX11_turningsFrom_263 : decode cX11_turningsFrom 263 = .ok (.iconst 0, 1) := by decide +kernel
theorem dX11_turningsFrom_264 : decode cX11_turningsFrom 264 = .ok (.istore_n 3, 1) := by decide +kernel
theorem dX11_turningsFrom_265 : decode cX11_turningsFrom 265 = .ok (.iconst 1, 1) := by decide +kernel
theorem dX11_turningsFrom_266 : decode cX11_turningsFrom 266 = .ok (.istore 4, 2) := by decide +kernel
theorem dX11_turningsFrom_268 : decode cX11_turningsFrom 268 = .ok (.iload 4, 2) := by decide +kernel
theorem dX11_turningsFrom_270 : decode cX11_turningsFrom 270 = .ok (.bipush 7, 2) := by decide +kernel
theorem dX11_turningsFrom_272 : decode cX11_turningsFrom 272 = .ok (.if_icmp .ge 42, 3) := by decide +kernel
theorem dX11_turningsFrom_275 : decode cX11_turningsFrom 275 = .ok (.aload_n 0, 1) := by decide +kernel
theorem dX11_turningsFrom_276 : decode cX11_turningsFrom 276 = .ok (.getfield 84, 3) := by decide +kernel
theorem dX11_turningsFrom_279 : decode cX11_turningsFrom 279 = .ok (.bipush 7, 2) := by decide +kernel
theorem dX11_turningsFrom_281 : decode cX11_turningsFrom 281 = .ok (.iload 4, 2) := by decide +kernel
theorem dX11_turningsFrom_283 : decode cX11_turningsFrom 283 = .ok (.imul, 1) := by decide +kernel
theorem dX11_turningsFrom_284 : decode cX11_turningsFrom 284 = .ok (.iload_n 2, 1) := by decide +kernel
theorem dX11_turningsFrom_285 : decode cX11_turningsFrom 285 = .ok (.iadd, 1) := by decide +kernel
theorem dX11_turningsFrom_286 : decode cX11_turningsFrom 286 = .ok (.iaload, 1) := by decide +kernel
theorem dX11_turningsFrom_287 : decode cX11_turningsFrom 287 = .ok (.aload_n 0, 1) := by decide +kernel
theorem dX11_turningsFrom_288 : decode cX11_turningsFrom 288 = .ok (.getfield 84, 3) := by decide +kernel
theorem dX11_turningsFrom_291 : decode cX11_turningsFrom 291 = .ok (.bipush 7, 2) := by decide +kernel
theorem dX11_turningsFrom_293 : decode cX11_turningsFrom 293 = .ok (.iload_n 3, 1) := by decide +kernel
theorem dX11_turningsFrom_294 : decode cX11_turningsFrom 294 = .ok (.imul, 1) := by decide +kernel
theorem dX11_turningsFrom_295 : decode cX11_turningsFrom 295 = .ok (.iload_n 2, 1) := by decide +kernel
theorem dX11_turningsFrom_296 : decode cX11_turningsFrom 296 = .ok (.iadd, 1) := by decide +kernel
theorem dX11_turningsFrom_297 : decode cX11_turningsFrom 297 = .ok (.iaload, 1) := by decide +kernel
theorem dX11_turningsFrom_298 : decode cX11_turningsFrom 298 = .ok (.if_icmp .ge 8, 3) := by decide +kernel
theorem dX11_turningsFrom_301 : decode cX11_turningsFrom 301 = .ok (.iload 4, 2) := by decide +kernel
theorem dX11_turningsFrom_303 : decode cX11_turningsFrom 303 = .ok (.goto 4, 3) := by decide +kernel
theorem dX11_turningsFrom_306 : decode cX11_turningsFrom 306 = .ok (.iload_n 3, 1) := by decide +kernel
theorem dX11_turningsFrom_307 : decode cX11_turningsFrom 307 = .ok (.istore_n 3, 1) := by decide +kernel
theorem dX11_turningsFrom_308 : decode cX11_turningsFrom 308 = .ok (.iinc 4 1, 3) := by decide +kernel
theorem dX11_turningsFrom_311 : decode cX11_turningsFrom 311 = .ok (.goto (-43), 3) := by decide +kernel
theorem dX11_turningsFrom_314 : decode cX11_turningsFrom 314 = .ok (.bipush 7, 2) := by decide +kernel
theorem dX11_turningsFrom_316 : decode cX11_turningsFrom 316 = .ok (.iload_n 1, 1) := by decide +kernel
theorem dX11_turningsFrom_317 : decode cX11_turningsFrom 317 = .ok (.imul, 1) := by decide +kernel
theorem dX11_turningsFrom_318 : decode cX11_turningsFrom 318 = .ok (.iload_n 2, 1) := by decide +kernel
theorem dX11_turningsFrom_319 : decode cX11_turningsFrom 319 = .ok (.iadd, 1) := by decide +kernel
theorem dX11_turningsFrom_320 : decode cX11_turningsFrom 320 = .ok (.istore 4, 2) := by decide +kernel
theorem dX11_turningsFrom_322 : decode cX11_turningsFrom 322 = .ok (.aload_n 0, 1) := by decide +kernel
theorem dX11_turningsFrom_323 : decode cX11_turningsFrom 323 = .ok (.getfield 75, 3) := by decide +kernel
theorem dX11_turningsFrom_326 : decode cX11_turningsFrom 326 = .ok (.iload 4, 2) := by decide +kernel
theorem dX11_turningsFrom_328 : decode cX11_turningsFrom 328 = .ok (.aload_n 0, 1) := by decide +kernel
theorem dX11_turningsFrom_329 : decode cX11_turningsFrom 329 = .ok (.getfield 84, 3) := by decide +kernel
theorem dX11_turningsFrom_332 : decode cX11_turningsFrom 332 = .ok (.bipush 7, 2) := by decide +kernel
theorem dX11_turningsFrom_334 : decode cX11_turningsFrom 334 = .ok (.iload_n 3, 1) := by decide +kernel
theorem dX11_turningsFrom_335 : decode cX11_turningsFrom 335 = .ok (.imul, 1) := by decide +kernel
theorem dX11_turningsFrom_336 : decode cX11_turningsFrom 336 = .ok (.iload_n 2, 1) := by decide +kernel
theorem dX11_turningsFrom_337 : decode cX11_turningsFrom 337 = .ok (.iadd, 1) := by decide +kernel
theorem dX11_turningsFrom_338 : decode cX11_turningsFrom 338 = .ok (.iaload, 1) := by decide +kernel
theorem dX11_turningsFrom_339 : decode cX11_turningsFrom 339 = .ok (.iastore, 1) := by decide +kernel
theorem dX11_turningsFrom_340 : decode cX11_turningsFrom 340 = .ok (.aload_n 0, 1) := by decide +kernel
theorem dX11_turningsFrom_341 : decode cX11_turningsFrom 341 = .ok (.getfield 78, 3) := by decide +kernel
theorem dX11_turningsFrom_344 : decode cX11_turningsFrom 344 = .ok (.iload 4, 2) := by decide +kernel
theorem dX11_turningsFrom_346 : decode cX11_turningsFrom 346 = .ok (.iload_n 3, 1) := by decide +kernel
theorem dX11_turningsFrom_347 : decode cX11_turningsFrom 347 = .ok (.iastore, 1) := by decide +kernel
theorem dX11_turningsFrom_348 : decode cX11_turningsFrom 348 = .ok (.iconst 0, 1) := by decide +kernel
theorem dX11_turningsFrom_349 : decode cX11_turningsFrom 349 = .ok (.istore 5, 2) := by decide +kernel
theorem dX11_turningsFrom_351 : decode cX11_turningsFrom 351 = .ok (.iload 5, 2) := by decide +kernel
theorem dX11_turningsFrom_353 : decode cX11_turningsFrom 353 = .ok (.iload_n 3, 1) := by decide +kernel
theorem dX11_turningsFrom_354 : decode cX11_turningsFrom 354 = .ok (.if_icmp .ge 39, 3) := by decide +kernel
theorem dX11_turningsFrom_357 : decode cX11_turningsFrom 357 = .ok (.aload_n 0, 1) := by decide +kernel
theorem dX11_turningsFrom_358 : decode cX11_turningsFrom 358 = .ok (.getfield 81, 3) := by decide +kernel
theorem dX11_turningsFrom_361 : decode cX11_turningsFrom 361 = .ok (.bipush 6, 2) := by decide +kernel
theorem dX11_turningsFrom_363 : decode cX11_turningsFrom 363 = .ok (.iload 4, 2) := by decide +kernel
theorem dX11_turningsFrom_365 : decode cX11_turningsFrom 365 = .ok (.imul, 1) := by decide +kernel
theorem dX11_turningsFrom_366 : decode cX11_turningsFrom 366 = .ok (.iload 5, 2) := by decide +kernel
theorem dX11_turningsFrom_368 : decode cX11_turningsFrom 368 = .ok (.iadd, 1) := by decide +kernel
theorem dX11_turningsFrom_369 : decode cX11_turningsFrom 369 = .ok (.aload_n 0, 1) := by decide +kernel
theorem dX11_turningsFrom_370 : decode cX11_turningsFrom 370 = .ok (.getfield 87, 3) := by decide +kernel
theorem dX11_turningsFrom_373 : decode cX11_turningsFrom 373 = .ok (.bipush 6, 2) := by decide +kernel
theorem dX11_turningsFrom_375 : decode cX11_turningsFrom 375 = .ok (.bipush 7, 2) := by decide +kernel
theorem dX11_turningsFrom_377 : decode cX11_turningsFrom 377 = .ok (.iload_n 3, 1) := by decide +kernel
theorem dX11_turningsFrom_378 : decode cX11_turningsFrom 378 = .ok (.imul, 1) := by decide +kernel
theorem dX11_turningsFrom_379 : decode cX11_turningsFrom 379 = .ok (.iload_n 2, 1) := by decide +kernel
theorem dX11_turningsFrom_380 : decode cX11_turningsFrom 380 = .ok (.iadd, 1) := by decide +kernel
theorem dX11_turningsFrom_381 : decode cX11_turningsFrom 381 = .ok (.imul, 1) := by decide +kernel
theorem dX11_turningsFrom_382 : decode cX11_turningsFrom 382 = .ok (.iload 5, 2) := by decide +kernel
theorem dX11_turningsFrom_384 : decode cX11_turningsFrom 384 = .ok (.iadd, 1) := by decide +kernel
theorem dX11_turningsFrom_385 : decode cX11_turningsFrom 385 = .ok (.iaload, 1) := by decide +kernel
theorem dX11_turningsFrom_386 : decode cX11_turningsFrom 386 = .ok (.iastore, 1) := by decide +kernel
theorem dX11_turningsFrom_387 : decode cX11_turningsFrom 387 = .ok (.iinc 5 1, 3) := by decide +kernel
theorem dX11_turningsFrom_390 : decode cX11_turningsFrom 390 = .ok (.goto (-39), 3) := by decide +kernel
theorem dX11_turningsFrom_393 : decode cX11_turningsFrom 393 = .ok (.iinc 2 1, 3) := by decide +kernel
theorem dX11_turningsFrom_396 : decode cX11_turningsFrom 396 = .ok (.goto (-139), 3) := by decide +kernel
theorem dX11_turningsFrom_399 : decode cX11_turningsFrom 399 = .ok (.return_, 1) := by decide +kernel
theorem dX11_measure_0 : decode cX11_measure 0 = .ok (.iconst 0, 1) := by decide +kernel
theorem dX11_measure_1 : decode cX11_measure 1 = .ok (.istore_n 1, 1) := by decide +kernel
theorem dX11_measure_2 : decode cX11_measure 2 = .ok (.iload_n 1, 1) := by decide +kernel
theorem dX11_measure_3 : decode cX11_measure 3 = .ok (.bipush 7, 2) := by decide +kernel
theorem dX11_measure_5 : decode cX11_measure 5 = .ok (.if_icmp .ge 14, 3) := by decide +kernel
theorem dX11_measure_8 : decode cX11_measure 8 = .ok (.aload_n 0, 1) := by decide +kernel
theorem dX11_measure_9 : decode cX11_measure 9 = .ok (.iload_n 1, 1) := by decide +kernel
theorem dX11_measure_10 : decode cX11_measure 10 = .ok (.invokevirtual 185, 3) := by decide +kernel
theorem dX11_measure_13 : decode cX11_measure 13 = .ok (.iinc 1 1, 3) := by decide +kernel
theorem dX11_measure_16 : decode cX11_measure 16 = .ok (.goto (-14), 3) := by decide +kernel
theorem dX11_measure_19 : decode cX11_measure 19 = .ok (.return_, 1) := by decide +kernel
theorem dX11_turning_0 : decode cX11_turning 0 = .ok (.aload_n 0, 1) := by decide +kernel
theorem dX11_turning_1 : decode cX11_turning 1 = .ok (.iconst 0, 1) := by decide +kernel
theorem dX11_turning_2 : decode cX11_turning 2 = .ok (.putfield 131, 3) := by decide +kernel
theorem dX11_turning_5 : decode cX11_turning 5 = .ok (.iload_n 1, 1) := by decide +kernel
theorem dX11_turning_6 : decode cX11_turning 6 = .ok (.i2l, 1) := by decide +kernel
theorem dX11_turning_7 : decode cX11_turning 7 = .ok (.lconst 0, 1) := by decide +kernel
theorem dX11_turning_8 : decode cX11_turning 8 = .ok (.ldc2_w 150, 3) := by decide +kernel
theorem dX11_turning_11 : decode cX11_turning 11 = .ok (.invokestatic 138, 3) := by decide +kernel
theorem dX11_turning_14 : decode cX11_turning 14 = .ok (.ifCond .eq 19, 3) := by decide +kernel
theorem dX11_turning_17 : decode cX11_turning 17 = .ok (.iload_n 2, 1) := by decide +kernel
theorem dX11_turning_18 : decode cX11_turning 18 = .ok (.i2l, 1) := by decide +kernel
theorem dX11_turning_19 : decode cX11_turning 19 = .ok (.lconst 0, 1) := by decide +kernel
theorem dX11_turning_20 : decode cX11_turning 20 = .ok (.ldc2_w 150, 3) := by decide +kernel
theorem dX11_turning_23 : decode cX11_turning 23 = .ok (.invokestatic 138, 3) := by decide +kernel
theorem dX11_turning_26 : decode cX11_turning 26 = .ok (.ifCond .eq 7, 3) := by decide +kernel
theorem dX11_turning_29 : decode cX11_turning 29 = .ok (.iload_n 3, 1) := by decide +kernel
theorem dX11_turning_30 : decode cX11_turning 30 = .ok (.ifCond .ge 6, 3) := by decide +kernel
theorem dX11_turning_33 : decode cX11_turning 33 = .ok (.bipush (-3), 2) := by decide +kernel
theorem dX11_turning_35 : decode cX11_turning 35 = .ok (.ireturn, 1) := by decide +kernel
theorem dX11_turning_36 : decode cX11_turning 36 = .ok (.aload_n 0, 1) := by decide +kernel
theorem dX11_turning_37 : decode cX11_turning 37 = .ok (.invokevirtual 189, 3) := by decide +kernel
theorem dX11_turning_40 : decode cX11_turning 40 = .ok (.bipush 7, 2) := by decide +kernel
theorem dX11_turning_42 : decode cX11_turning 42 = .ok (.iload_n 1, 1) := by decide +kernel
theorem dX11_turning_43 : decode cX11_turning 43 = .ok (.imul, 1) := by decide +kernel
