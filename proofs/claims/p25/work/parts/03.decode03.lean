theorem dX11_apply_7 : decode cX11_apply 7 = .ok (.lload_n 2, 1) := by decide +kernel
theorem dX11_apply_8 : decode cX11_apply 8 = .ok (.lconst 0, 1) := by decide +kernel
theorem dX11_apply_9 : decode cX11_apply 9 = .ok (.lcmp, 1) := by decide +kernel
theorem dX11_apply_10 : decode cX11_apply 10 = .ok (.ifCond .ne 7, 3) := by decide +kernel
theorem dX11_apply_13 : decode cX11_apply 13 = .ok (.lconst 0, 1) := by decide +kernel
theorem dX11_apply_14 : decode cX11_apply 14 = .ok (.goto 4, 3) := by decide +kernel
theorem dX11_apply_17 : decode cX11_apply 17 = .ok (.lconst 1, 1) := by decide +kernel
theorem dX11_apply_18 : decode cX11_apply 18 = .ok (.putfield 158, 3) := by decide +kernel
theorem dX11_apply_21 : decode cX11_apply 21 = .ok (.iconst 1, 1) := by decide +kernel
theorem dX11_apply_22 : decode cX11_apply 22 = .ok (.ireturn, 1) := by decide +kernel
theorem dX11_apply_23 : decode cX11_apply 23 = .ok (.iload_n 1, 1) := by decide +kernel
theorem dX11_apply_24 : decode cX11_apply 24 = .ok (.bipush 9, 2) := by decide +kernel
theorem dX11_apply_26 : decode cX11_apply 26 = .ok (.if_icmp .ne 14, 3) := by decide +kernel
theorem dX11_apply_29 : decode cX11_apply 29 = .ok (.aload_n 0, 1) := by decide +kernel
theorem dX11_apply_30 : decode cX11_apply 30 = .ok (.lload_n 2, 1) := by decide +kernel
theorem dX11_apply_31 : decode cX11_apply 31 = .ok (.ldc2_w 162, 3) := by decide +kernel
theorem dX11_apply_34 : decode cX11_apply 34 = .ok (.ldiv, 1) := by decide +kernel
theorem dX11_apply_35 : decode cX11_apply 35 = .ok (.putfield 158, 3) := by decide +kernel
theorem dX11_apply_38 : decode cX11_apply 38 = .ok (.iconst 1, 1) := by decide +kernel
theorem dX11_apply_39 : decode cX11_apply 39 = .ok (.ireturn, 1) := by decide +kernel
theorem dX11_apply_40 : decode cX11_apply 40 = .ok (.iload_n 1, 1) := by decide +kernel
theorem dX11_apply_41 : decode cX11_apply 41 = .ok (.bipush 8, 2) := by decide +kernel
theorem dX11_apply_43 : decode cX11_apply 43 = .ok (.if_icmp .ne 9, 3) := by decide +kernel
theorem dX11_apply_46 : decode cX11_apply 46 = .ok (.ldc2_w 162, 3) := by decide +kernel
theorem dX11_apply_49 : decode cX11_apply 49 = .ok (.goto 10, 3) := by decide +kernel
theorem dX11_apply_52 : decode cX11_apply 52 = .ok (.aload_n 0, 1) := by decide +kernel
theorem dX11_apply_53 : decode cX11_apply 53 = .ok (.getfield 19, 3) := by decide +kernel
theorem dX11_apply_56 : decode cX11_apply 56 = .ok (.iload_n 1, 1) := by decide +kernel
theorem dX11_apply_57 : decode cX11_apply 57 = .ok (.iaload, 1) := by decide +kernel
theorem dX11_apply_58 : decode cX11_apply 58 = .ok (.i2l, 1) := by decide +kernel
theorem dX11_apply_59 : decode cX11_apply 59 = .ok (.lstore 4, 2) := by decide +kernel
theorem dX11_apply_61 : decode cX11_apply 61 = .ok (.aload_n 0, 1) := by decide +kernel
theorem dX11_apply_62 : decode cX11_apply 62 = .ok (.getfield 22, 3) := by decide +kernel
theorem dX11_apply_65 : decode cX11_apply 65 = .ok (.iload_n 1, 1) := by decide +kernel
theorem dX11_apply_66 : decode cX11_apply 66 = .ok (.iaload, 1) := by decide +kernel
theorem dX11_apply_67 : decode cX11_apply 67 = .ok (.i2l, 1) := by decide +kernel
theorem dX11_apply_68 : decode cX11_apply 68 = .ok (.lstore 6, 2) := by decide +kernel
theorem dX11_apply_70 : decode cX11_apply 70 = .ok (.lload_n 2, 1) := by decide +kernel
theorem dX11_apply_71 : decode cX11_apply 71 = .ok (.lload 4, 2) := by decide +kernel
theorem dX11_apply_73 : decode cX11_apply 73 = .ok (.invokestatic 164, 3) := by decide +kernel
theorem dX11_apply_76 : decode cX11_apply 76 = .ok (.lstore 8, 2) := by decide +kernel
theorem dX11_apply_78 : decode cX11_apply 78 = .ok (.lload_n 2, 1) := by decide +kernel
theorem dX11_apply_79 : decode cX11_apply 79 = .ok (.lload 4, 2) := by decide +kernel
theorem dX11_apply_81 : decode cX11_apply 81 = .ok (.lmul, 1) := by decide +kernel
theorem dX11_apply_82 : decode cX11_apply 82 = .ok (.lstore 10, 2) := by decide +kernel
theorem dX11_apply_84 : decode cX11_apply 84 = .ok (.lload 10, 2) := by decide +kernel
theorem dX11_apply_86 : decode cX11_apply 86 = .ok (.lload 6, 2) := by decide +kernel
theorem dX11_apply_88 : decode cX11_apply 88 = .ok (.ladd, 1) := by decide +kernel
theorem dX11_apply_89 : decode cX11_apply 89 = .ok (.lstore 12, 2) := by decide +kernel
theorem dX11_apply_91 : decode cX11_apply 91 = .ok (.lload 8, 2) := by decide +kernel
theorem dX11_apply_93 : decode cX11_apply 93 = .ok (.lload 6, 2) := by decide +kernel
theorem dX11_apply_95 : decode cX11_apply 95 = .ok (.bipush 63, 2) := by decide +kernel
theorem dX11_apply_97 : decode cX11_apply 97 = .ok (.lshr, 1) := by decide +kernel
theorem dX11_apply_98 : decode cX11_apply 98 = .ok (.ladd, 1) := by decide +kernel
theorem dX11_apply_99 : decode cX11_apply 99 = .ok (.lstore 8, 2) := by decide +kernel
theorem dX11_apply_101 : decode cX11_apply 101 = .ok (.lload 8, 2) := by decide +kernel
theorem dX11_apply_103 : decode cX11_apply 103 = .ok (.lload 12, 2) := by decide +kernel
theorem dX11_apply_105 : decode cX11_apply 105 = .ok (.lload 10, 2) := by decide +kernel
theorem dX11_apply_107 : decode cX11_apply 107 = .ok (.invokestatic 170, 3) := by decide +kernel
theorem dX11_apply_110 : decode cX11_apply 110 = .ok (.ifCond .ge 7, 3) := by decide +kernel
theorem dX11_apply_113 : decode cX11_apply 113 = .ok (.lconst 1, 1) := by decide +kernel
theorem dX11_apply_114 : decode cX11_apply 114 = .ok (.goto 4, 3) := by decide +kernel
theorem dX11_apply_117 : decode cX11_apply 117 = .ok (.lconst 0, 1) := by decide +kernel
theorem dX11_apply_118 : decode cX11_apply 118 = .ok (.ladd, 1) := by decide +kernel
theorem dX11_apply_119 : decode cX11_apply 119 = .ok (.lstore 8, 2) := by decide +kernel
theorem dX11_apply_121 : decode cX11_apply 121 = .ok (.aload_n 0, 1) := by decide +kernel
theorem dX11_apply_122 : decode cX11_apply 122 = .ok (.lload 12, 2) := by decide +kernel
theorem dX11_apply_124 : decode cX11_apply 124 = .ok (.putfield 158, 3) := by decide +kernel
theorem dX11_apply_127 : decode cX11_apply 127 = .ok (.lload 8, 2) := by decide +kernel
theorem dX11_apply_129 : decode cX11_apply 129 = .ok (.lload 12, 2) := by decide +kernel
theorem dX11_apply_131 : decode cX11_apply 131 = .ok (.bipush 63, 2) := by decide +kernel
theorem dX11_apply_133 : decode cX11_apply 133 = .ok (.lshr, 1) := by decide +kernel
theorem dX11_apply_134 : decode cX11_apply 134 = .ok (.lcmp, 1) := by decide +kernel
theorem dX11_apply_135 : decode cX11_apply 135 = .ok (.ifCond .ne 21, 3) := by decide +kernel
theorem dX11_apply_138 : decode cX11_apply 138 = .ok (.aload_n 0, 1) := by decide +kernel
theorem dX11_apply_139 : decode cX11_apply 139 = .ok (.getfield 13, 3) := by decide +kernel
theorem dX11_apply_142 : decode cX11_apply 142 = .ok (.iload_n 1, 1) := by decide +kernel
theorem dX11_apply_143 : decode cX11_apply 143 = .ok (.iaload, 1) := by decide +kernel
theorem dX11_apply_144 : decode cX11_apply 144 = .ok (.lload 12, 2) := by decide +kernel
theorem dX11_apply_146 : decode cX11_apply 146 = .ok (.invokestatic 176, 3) := by decide +kernel
theorem dX11_apply_149 : decode cX11_apply 149 = .ok (.ifCond .eq 7, 3) := by decide +kernel
theorem dX11_apply_152 : decode cX11_apply 152 = .ok (.iconst 1, 1) := by decide +kernel
theorem dX11_apply_153 : decode cX11_apply 153 = .ok (.goto 4, 3) := by decide +kernel
theorem dX11_apply_156 : decode cX11_apply 156 = .ok (.iconst 0, 1) := by decide +kernel
theorem dX11_apply_157 : decode cX11_apply 157 = .ok (.ireturn, 1) := by decide +kernel
theorem dX11_isAhead_0 : decode cX11_isAhead 0 = .ok (.iconst 0, 1) := by decide +kernel
theorem dX11_isAhead_1 : decode cX11_isAhead 1 = .ok (.istore 5, 2) := by decide +kernel
theorem dX11_isAhead_3 : decode cX11_isAhead 3 = .ok (.iload 5, 2) := by decide +kernel
theorem dX11_isAhead_5 : decode cX11_isAhead 5 = .ok (.iload 4, 2) := by decide +kernel
theorem dX11_isAhead_7 : decode cX11_isAhead 7 = .ok (.if_icmp .ge 67, 3) := by decide +kernel
theorem dX11_isAhead_10 : decode cX11_isAhead 10 = .ok (.iload 5, 2) := by decide +kernel
theorem dX11_isAhead_12 : decode cX11_isAhead 12 = .ok (.iload 4, 2) := by decide +kernel
theorem dX11_isAhead_14 : decode cX11_isAhead 14 = .ok (.iconst 1, 1) := by decide +kernel
theorem dX11_isAhead_15 : decode cX11_isAhead 15 = .ok (.isub, 1) := by decide +kernel
theorem dX11_isAhead_16 : decode cX11_isAhead 16 = .ok (.if_icmp .ne 7, 3) := by decide +kernel
theorem dX11_isAhead_19 : decode cX11_isAhead 19 = .ok (.iload_n 2, 1) := by decide +kernel
theorem dX11_isAhead_20 : decode cX11_isAhead 20 = .ok (.goto 12, 3) := by decide +kernel
theorem dX11_isAhead_23 : decode cX11_isAhead 23 = .ok (.aload_n 0, 1) := by decide +kernel
theorem dX11_isAhead_24 : decode cX11_isAhead 24 = .ok (.getfield 87, 3) := by decide +kernel
theorem dX11_isAhead_27 : decode cX11_isAhead 27 = .ok (.iload_n 1, 1) := by decide +kernel
theorem dX11_isAhead_28 : decode cX11_isAhead 28 = .ok (.iload 5, 2) := by decide +kernel
theorem dX11_isAhead_30 : decode cX11_isAhead 30 = .ok (.iadd, 1) := by decide +kernel
theorem dX11_isAhead_31 : decode cX11_isAhead 31 = .ok (.iaload, 1) := by decide +kernel
theorem dX11_isAhead_32 : decode cX11_isAhead 32 = .ok (.istore 6, 2) := by decide +kernel
theorem dX11_isAhead_34 : decode cX11_isAhead 34 = .ok (.iload 6, 2) := by decide +kernel
theorem dX11_isAhead_36 : decode cX11_isAhead 36 = .ok (.aload_n 0, 1) := by decide +kernel
theorem dX11_isAhead_37 : decode cX11_isAhead 37 = .ok (.getfield 87, 3) := by decide +kernel
theorem dX11_isAhead_40 : decode cX11_isAhead 40 = .ok (.iload_n 3, 1) := by decide +kernel
theorem dX11_isAhead_41 : decode cX11_isAhead 41 = .ok (.iload 5, 2) := by decide +kernel
theorem dX11_isAhead_43 : decode cX11_isAhead 43 = .ok (.iadd, 1) := by decide +kernel
theorem dX11_isAhead_44 : decode cX11_isAhead 44 = .ok (.iaload, 1) := by decide +kernel
theorem dX11_isAhead_45 : decode cX11_isAhead 45 = .ok (.if_icmp .eq 23, 3) := by decide +kernel
theorem dX11_isAhead_48 : decode cX11_isAhead 48 = .ok (.iload 6, 2) := by decide +kernel
theorem dX11_isAhead_50 : decode cX11_isAhead 50 = .ok (.aload_n 0, 1) := by decide +kernel
theorem dX11_isAhead_51 : decode cX11_isAhead 51 = .ok (.getfield 87, 3) := by decide +kernel
theorem dX11_isAhead_54 : decode cX11_isAhead 54 = .ok (.iload_n 3, 1) := by decide +kernel
theorem dX11_isAhead_55 : decode cX11_isAhead 55 = .ok (.iload 5, 2) := by decide +kernel
theorem dX11_isAhead_57 : decode cX11_isAhead 57 = .ok (.iadd, 1) := by decide +kernel
theorem dX11_isAhead_58 : decode cX11_isAhead 58 = .ok (.iaload, 1) := by decide +kernel
theorem dX11_isAhead_59 : decode cX11_isAhead 59 = .ok (.if_icmp .ge 7, 3) := by decide +kernel
theorem dX11_isAhead_62 : decode cX11_isAhead 62 = .ok (.iconst 1, 1) := by decide +kernel
theorem dX11_isAhead_63 : decode cX11_isAhead 63 = .ok (.goto 4, 3) := by decide +kernel
theorem dX11_isAhead_66 : decode cX11_isAhead 66 = .ok (.iconst 0, 1) := by decide +kernel
theorem dX11_isAhead_67 : decode cX11_isAhead 67 = .ok (.ireturn, 1) := by decide +kernel
theorem dX11_isAhead_68 : decode cX11_isAhead 68 = .ok (.iinc 5 1, 3) := by decide +kernel
theorem dX11_isAhead_71 : decode cX11_isAhead 71 = .ok (.goto (-68), 3) := by decide +kernel
theorem dX11_isAhead_74 : decode cX11_isAhead 74 = .ok (.iconst 0, 1) := by decide +kernel
theorem dX11_isAhead_75 : decode cX11_isAhead 75 = .ok (.ireturn, 1) := by decide +kernel
theorem dX11_turningsFrom_0 : decode cX11_turningsFrom 0 = .ok (.iconst 0, 1) := by decide +kernel
theorem dX11_turningsFrom_1 : decode cX11_turningsFrom 1 = .ok (.istore_n 2, 1) := by decide +kernel
theorem dX11_turningsFrom_2 : decode cX11_turningsFrom 2 = .ok (.iload_n 2, 1) := by decide +kernel
theorem dX11_turningsFrom_3 : decode cX11_turningsFrom 3 = .ok (.bipush 49, 2) := by decide +kernel
theorem dX11_turningsFrom_5 : decode cX11_turningsFrom 5 = .ok (.if_icmp .ge 26, 3) := by decide +kernel
theorem dX11_turningsFrom_8 : decode cX11_turningsFrom 8 = .ok (.aload_n 0, 1) := by decide +kernel
theorem dX11_turningsFrom_9 : decode cX11_turningsFrom 9 = .ok (.getfield 84, 3) := by decide +kernel
theorem dX11_turningsFrom_12 : decode cX11_turningsFrom 12 = .ok (.iload_n 2, 1) := by decide +kernel
theorem dX11_turningsFrom_13 : decode cX11_turningsFrom 13 = .ok (.iload_n 2, 1) := by decide +kernel
theorem dX11_turningsFrom_14 : decode cX11_turningsFrom 14 = .ok (.iload_n 1, 1) := by decide +kernel
theorem dX11_turningsFrom_15 : decode cX11_turningsFrom 15 = .ok (.if_icmp .ne 7, 3) := by decide +kernel
theorem dX11_turningsFrom_18 : decode cX11_turningsFrom 18 = .ok (.iconst 0, 1) := by decide +kernel
theorem dX11_turningsFrom_19 : decode cX11_turningsFrom 19 = .ok (.goto 5, 3) := by decide +kernel
theorem dX11_turningsFrom_22 : decode cX11_turningsFrom 22 = .ok (.ldc 180, 2) := by decide +kernel
theorem dX11_turningsFrom_24 : decode cX11_turningsFrom 24 = .ok (.iastore, 1) := by decide +kernel
theorem dX11_turningsFrom_25 : decode cX11_turningsFrom 25 = .ok (.iinc 2 1, 3) := by decide +kernel
theorem dX11_turningsFrom_28 : decode cX11_turningsFrom 28 = .ok (.goto (-26), 3) := by decide +kernel
theorem dX11_turningsFrom_31 : decode cX11_turningsFrom 31 = .ok (.iconst 1, 1) := by decide +kernel
theorem dX11_turningsFrom_32 : decode cX11_turningsFrom 32 = .ok (.istore_n 2, 1) := by decide +kernel
theorem dX11_turningsFrom_33 : decode cX11_turningsFrom 33 = .ok (.iload_n 2, 1) := by decide +kernel
theorem dX11_turningsFrom_34 : decode cX11_turningsFrom 34 = .ok (.bipush 7, 2) := by decide +kernel
theorem dX11_turningsFrom_36 : decode cX11_turningsFrom 36 = .ok (.if_icmp .ge 219, 3) := by decide +kernel
theorem dX11_turningsFrom_39 : decode cX11_turningsFrom 39 = .ok (.iconst 0, 1) := by decide +kernel
theorem dX11_turningsFrom_40 : decode cX11_turningsFrom 40 = .ok (.istore_n 3, 1) := by decide +kernel
theorem dX11_turningsFrom_41 : decode cX11_turningsFrom 41 = .ok (.iload_n 3, 1) := by decide +kernel
theorem dX11_turningsFrom_42 : decode cX11_turningsFrom 42 = .ok (.aload_n 0, 1) := by decide +kernel
theorem dX11_turningsFrom_43 : decode cX11_turningsFrom 43 = .ok (.getfield 127, 3) := by decide +kernel
theorem dX11_turningsFrom_46 : decode cX11_turningsFrom 46 = .ok (.if_icmp .ge 203, 3) := by decide +kernel
theorem dX11_turningsFrom_49 : decode cX11_turningsFrom 49 = .ok (.aload_n 0, 1) := by decide +kernel
theorem dX11_turningsFrom_50 : decode cX11_turningsFrom 50 = .ok (.getfield 84, 3) := by decide +kernel
theorem dX11_turningsFrom_53 : decode cX11_turningsFrom 53 = .ok (.bipush 7, 2) := by decide +kernel
theorem dX11_turningsFrom_55 : decode cX11_turningsFrom 55 = .ok (.iload_n 2, 1) := by decide +kernel
theorem dX11_turningsFrom_56 : decode cX11_turningsFrom 56 = .ok (.iconst 1, 1) := by decide +kernel
theorem dX11_turningsFrom_57 : decode cX11_turningsFrom 57 = .ok (.isub, 1) := by decide +kernel
theorem dX11_turningsFrom_58 : decode cX11_turningsFrom 58 = .ok (.imul, 1) := by decide +kernel
theorem dX11_turningsFrom_59 : decode cX11_turningsFrom 59 = .ok (.aload_n 0, 1) := by decide +kernel
theorem dX11_turningsFrom_60 : decode cX11_turningsFrom 60 = .ok (.getfield 7, 3) := by decide +kernel
theorem dX11_turningsFrom_63 : decode cX11_turningsFrom 63 = .ok (.iload_n 3, 1) := by decide +kernel
theorem dX11_turningsFrom_64 : decode cX11_turningsFrom 64 = .ok (.iaload, 1) := by decide +kernel
theorem dX11_turningsFrom_65 : decode cX11_turningsFrom 65 = .ok (.iadd, 1) := by decide +kernel
theorem dX11_turningsFrom_66 : decode cX11_turningsFrom 66 = .ok (.iaload, 1) := by decide +kernel
theorem dX11_turningsFrom_67 : decode cX11_turningsFrom 67 = .ok (.istore 4, 2) := by decide +kernel
theorem dX11_turningsFrom_69 : decode cX11_turningsFrom 69 = .ok (.bipush 7, 2) := by decide +kernel
theorem dX11_turningsFrom_71 : decode cX11_turningsFrom 71 = .ok (.iload_n 2, 1) := by decide +kernel
theorem dX11_turningsFrom_72 : decode cX11_turningsFrom 72 = .ok (.imul, 1) := by decide +kernel
theorem dX11_turningsFrom_73 : decode cX11_turningsFrom 73 = .ok (.aload_n 0, 1) := by decide +kernel
theorem dX11_turningsFrom_74 : decode cX11_turningsFrom 74 = .ok (.getfield 13, 3) := by decide +kernel
theorem dX11_turningsFrom_77 : decode cX11_turningsFrom 77 = .ok (.iload_n 3, 1) := by decide +kernel
theorem dX11_turningsFrom_78 : decode cX11_turningsFrom 78 = .ok (.iaload, 1) := by decide +kernel
theorem dX11_turningsFrom_79 : decode cX11_turningsFrom 79 = .ok (.iadd, 1) := by decide +kernel
theorem dX11_turningsFrom_80 : decode cX11_turningsFrom 80 = .ok (.istore 5, 2) := by decide +kernel
theorem dX11_turningsFrom_82 : decode cX11_turningsFrom 82 = .ok (.bipush 6, 2) := by decide +kernel
theorem dX11_turningsFrom_84 : decode cX11_turningsFrom 84 = .ok (.bipush 7, 2) := by decide +kernel
theorem dX11_turningsFrom_86 : decode cX11_turningsFrom 86 = .ok (.iload_n 2, 1) := by decide +kernel
theorem dX11_turningsFrom_87 : decode cX11_turningsFrom 87 = .ok (.iconst 1, 1) := by decide +kernel
theorem dX11_turningsFrom_88 : decode cX11_turningsFrom 88 = .ok (.isub, 1) := by decide +kernel
theorem dX11_turningsFrom_89 : decode cX11_turningsFrom 89 = .ok (.imul, 1) := by decide +kernel
theorem dX11_turningsFrom_90 : decode cX11_turningsFrom 90 = .ok (.aload_n 0, 1) := by decide +kernel
theorem dX11_turningsFrom_91 : decode cX11_turningsFrom 91 = .ok (.getfield 7, 3) := by decide +kernel
theorem dX11_turningsFrom_94 : decode cX11_turningsFrom 94 = .ok (.iload_n 3, 1) := by decide +kernel
theorem dX11_turningsFrom_95 : decode cX11_turningsFrom 95 = .ok (.iaload, 1) := by decide +kernel
theorem dX11_turningsFrom_96 : decode cX11_turningsFrom 96 = .ok (.iadd, 1) := by decide +kernel
theorem dX11_turningsFrom_97 : decode cX11_turningsFrom 97 = .ok (.imul, 1) := by decide +kernel
theorem dX11_turningsFrom_98 : decode cX11_turningsFrom 98 = .ok (.istore 6, 2) := by decide +kernel
theorem dX11_turningsFrom_100 : decode cX11_turningsFrom 100 = .ok (.iload 4, 2) := by decide +kernel
theorem dX11_turningsFrom_102 : decode cX11_turningsFrom 102 = .ok (.aload_n 0, 1) := by decide +kernel
theorem dX11_turningsFrom_103 : decode cX11_turningsFrom 103 = .ok (.getfield 16, 3) := by decide +kernel
theorem dX11_turningsFrom_106 : decode cX11_turningsFrom 106 = .ok (.iload_n 3, 1) := by decide +kernel
theorem dX11_turningsFrom_107 : decode cX11_turningsFrom 107 = .ok (.iaload, 1) := by decide +kernel
theorem dX11_turningsFrom_108 : decode cX11_turningsFrom 108 = .ok (.iadd, 1) := by decide +kernel
theorem dX11_turningsFrom_109 : decode cX11_turningsFrom 109 = .ok (.istore 7, 2) := by decide +kernel
theorem dX11_turningsFrom_111 : decode cX11_turningsFrom 111 = .ok (.aload_n 0, 1) := by decide +kernel
theorem dX11_turningsFrom_112 : decode cX11_turningsFrom 112 = .ok (.getfield 25, 3) := by decide +kernel
theorem dX11_turningsFrom_115 : decode cX11_turningsFrom 115 = .ok (.iload_n 3, 1) := by decide +kernel
theorem dX11_turningsFrom_116 : decode cX11_turningsFrom 116 = .ok (.baload, 1) := by decide +kernel
theorem dX11_turningsFrom_117 : decode cX11_turningsFrom 117 = .ok (.ifCond .eq 54, 3) := by decide +kernel
theorem dX11_turningsFrom_120 : decode cX11_turningsFrom 120 = .ok (.iload 4, 2) := by decide +kernel
theorem dX11_turningsFrom_122 : decode cX11_turningsFrom 122 = .ok (.ldc 180, 2) := by decide +kernel
theorem dX11_turningsFrom_124 : decode cX11_turningsFrom 124 = .ok (.if_icmp .ge 47, 3) := by decide +kernel
theorem dX11_turningsFrom_127 : decode cX11_turningsFrom 127 = .ok (.iload 7, 2) := by decide +kernel
theorem dX11_turningsFrom_129 : decode cX11_turningsFrom 129 = .ok (.aload_n 0, 1) := by decide +kernel
theorem dX11_turningsFrom_130 : decode cX11_turningsFrom 130 = .ok (.getfield 84, 3) := by decide +kernel
theorem dX11_turningsFrom_133 : decode cX11_turningsFrom 133 = .ok (.iload 5, 2) := by decide +kernel
theorem dX11_turningsFrom_135 : decode cX11_turningsFrom 135 = .ok (.iaload, 1) := by decide +kernel
theorem dX11_turningsFrom_136 : decode cX11_turningsFrom 136 = .ok (.if_icmp .lt 31, 3) := by decide +kernel
theorem dX11_turningsFrom_139 : decode cX11_turningsFrom 139 = .ok (.iload 7, 2) := by decide +kernel
theorem dX11_turningsFrom_141 : decode cX11_turningsFrom 141 = .ok (.aload_n 0, 1) := by decide +kernel
theorem dX11_turningsFrom_142 : decode cX11_turningsFrom 142 = .ok (.getfield 84, 3) := by decide +kernel
theorem dX11_turningsFrom_145 : decode cX11_turningsFrom 145 = .ok (.iload 5, 2) := by decide +kernel
theorem dX11_turningsFrom_147 : decode cX11_turningsFrom 147 = .ok (.iaload, 1) := by decide +kernel
theorem dX11_turningsFrom_148 : decode cX11_turningsFrom 148 = .ok (.if_icmp .ne 23, 3) := by decide +kernel
theorem dX11_turningsFrom_151 : decode cX11_turningsFrom 151 = .ok (.aload_n 0, 1) := by decide +kernel
theorem dX11_turningsFrom_152 : decode cX11_turningsFrom 152 = .ok (.iload 6, 2) := by decide +kernel
theorem dX11_turningsFrom_154 : decode cX11_turningsFrom 154 = .ok (.iload_n 3, 1) := by decide +kernel
theorem dX11_turningsFrom_155 : decode cX11_turningsFrom 155 = .ok (.bipush 6, 2) := by decide +kernel
theorem dX11_turningsFrom_157 : decode cX11_turningsFrom 157 = .ok (.iload 5, 2) := by decide +kernel
theorem dX11_turningsFrom_159 : decode cX11_turningsFrom 159 = .ok (.imul, 1) := by decide +kernel
theorem dX11_turningsFrom_160 : decode cX11_turningsFrom 160 = .ok (.iload_n 2, 1) := by decide +kernel
theorem dX11_turningsFrom_161 : decode cX11_turningsFrom 161 = .ok (.invokevirtual 181, 3) := by decide +kernel
theorem dX11_turningsFrom_164 : decode cX11_turningsFrom 164 = .ok (.ifCond .eq 7, 3) := by decide +kernel
theorem dX11_turningsFrom_167 : decode cX11_turningsFrom 167 = .ok (.iconst 1, 1) := by decide +kernel
theorem dX11_turningsFrom_168 : decode cX11_turningsFrom 168 = .ok (.goto 4, 3) := by decide +kernel
theorem dX11_turningsFrom_171 : decode cX11_turningsFrom 171 = .ok (.iconst 0, 1) := by decide +kernel
theorem dX11_turningsFrom_172 : decode cX11_turningsFrom 172 = .ok (.istore 8, 2) := by decide +kernel
theorem dX11_turningsFrom_174 : decode cX11_turningsFrom 174 = .ok (.iload 8, 2) := by decide +kernel
theorem dX11_turningsFrom_176 : decode cX11_turningsFrom 176 = .ok (.ifCond .eq 67, 3) := by decide +kernel
theorem dX11_turningsFrom_179 : decode cX11_turningsFrom 179 = .ok (.aload_n 0, 1) := by decide +kernel
theorem dX11_turningsFrom_180 : decode cX11_turningsFrom 180 = .ok (.getfield 84, 3) := by decide +kernel
theorem dX11_turningsFrom_183 : decode cX11_turningsFrom 183 = .ok (.iload 5, 2) := by decide +kernel
theorem dX11_turningsFrom_185 : decode cX11_turningsFrom 185 = .ok (.iload 7, 2) := by decide +kernel
theorem dX11_turningsFrom_187 : decode cX11_turningsFrom 187 = .ok (.iastore, 1) := by decide +kernel
theorem dX11_turningsFrom_188 : decode cX11_turningsFrom 188 = .ok (.iconst 0, 1) := by decide +kernel
theorem dX11_turningsFrom_189 : decode cX11_turningsFrom 189 = .ok (.istore 9, 2) := by decide +kernel
theorem dX11_turningsFrom_191 : decode cX11_turningsFrom 191 = .ok (.iload 9, 2) := by decide +kernel
theorem dX11_turningsFrom_193 : decode cX11_turningsFrom 193 = .ok (.iload_n 2, 1) := by decide +kernel
theorem dX11_turningsFrom_194 : decode cX11_turningsFrom 194 = .ok (.iconst 1, 1) := by decide +kernel
theorem dX11_turningsFrom_195 : decode cX11_turningsFrom 195 = .ok (.isub, 1) := by decide +kernel
theorem dX11_turningsFrom_196 : decode cX11_turningsFrom 196 = .ok (.if_icmp .ge 32, 3) := by decide +kernel
theorem dX11_turningsFrom_199 : decode cX11_turningsFrom 199 = .ok (.aload_n 0, 1) := by decide +kernel
theorem dX11_turningsFrom_200 : decode cX11_turningsFrom 200 = .ok (.getfield 87, 3) := by decide +kernel
theorem dX11_turningsFrom_203 : decode cX11_turningsFrom 203 = .ok (.bipush 6, 2) := by decide +kernel
theorem dX11_turningsFrom_205 : decode cX11_turningsFrom 205 = .ok (.iload 5, 2) := by decide +kernel
theorem dX11_turningsFrom_207 : decode cX11_turningsFrom 207 = .ok (.imul, 1) := by decide +kernel
theorem dX11_turningsFrom_208 : decode cX11_turningsFrom 208 = .ok (.iload 9, 2) := by decide +kernel
theorem dX11_turningsFrom_210 : decode cX11_turningsFrom 210 = .ok (.iadd, 1) := by decide +kernel
theorem dX11_turningsFrom_211 : decode cX11_turningsFrom 211 = .ok (.aload_n 0, 1) := by decide +kernel
theorem dX11_turningsFrom_212 : decode cX11_turningsFrom 212 = .ok (.getfield 87, 3) := by decide +kernel
theorem dX11_turningsFrom_215 : decode cX11_turningsFrom 215 = .ok (.iload 6, 2) := by decide +kernel
theorem dX11_turningsFrom_217 : decode cX11_turningsFrom 217 = .ok (.iload 9, 2) := by decide +kernel
theorem dX11_turningsFrom_219 : decode cX11_turningsFrom 219 = .ok (.iadd, 1) := by decide +kernel
theorem dX11_turningsFrom_220 : decode cX11_turningsFrom 220 = .ok (.iaload, 1) := by decide +kernel
theorem dX11_turningsFrom_221 : decode cX11_turningsFrom 221 = .ok (.iastore, 1) := by decide +kernel
theorem dX11_turningsFrom_222 : decode cX11_turningsFrom 222 = .ok (.iinc 9 1, 3) := by decide +kernel
theorem dX11_turningsFrom_225 : decode cX11_turningsFrom 225 = .ok (.goto (-34), 3) := by decide +kernel
theorem dX11_turningsFrom_228 : decode cX11_turningsFrom 228 = .ok (.aload_n 0, 1) := by decide +kernel
theorem dX11_turningsFrom_229 : decode cX11_turningsFrom 229 = .ok (.getfield 87, 3) := by decide +kernel
theorem dX11_turningsFrom_232 : decode cX11_turningsFrom 232 = .ok (.bipush 6, 2) := by decide +kernel
theorem dX11_turningsFrom_234 : decode cX11_turningsFrom 234 = .ok (.iload 5, 2) := by decide +kernel
theorem dX11_turningsFrom_236 : decode cX11_turningsFrom 236 = .ok (.imul, 1) := by decide +kernel
theorem dX11_turningsFrom_237 : decode cX11_turningsFrom 237 = .ok (.iload_n 2, 1) := by decide +kernel
theorem dX11_turningsFrom_238 : decode cX11_turningsFrom 238 = .ok (.iadd, 1) := by decide +kernel
theorem dX11_turningsFrom_239 : decode cX11_turningsFrom 239 = .ok (.iconst 1, 1) := by decide +kernel
theorem dX11_turningsFrom_240 : decode cX11_turningsFrom 240 = .ok (.isub, 1) := by decide +kernel
theorem dX11_turningsFrom_241 : decode cX11_turningsFrom 241 = .ok (.iload_n 3, 1) := by decide +kernel
theorem dX11_turningsFrom_242 : decode cX11_turningsFrom 242 = .ok (.iastore, 1) := by decide +kernel
theorem dX11_turningsFrom_243 : decode cX11_turningsFrom 243 = .ok (.iinc 3 1, 3) := by decide +kernel
theorem dX11_turningsFrom_246 : decode cX11_turningsFrom 246 = .ok (.goto (-205), 3) := by decide +kernel
theorem dX11_turningsFrom_249 : decode cX11_turningsFrom 249 = .ok (.iinc 2 1, 3) := by decide +kernel
theorem dX11_turningsFrom_252 : decode cX11_turningsFrom 252 = .ok (.goto (-219), 3) := by decide +kernel
theorem dX11_turningsFrom_255 : decode cX11_turningsFrom 255 = .ok (.iconst 0, 1) := by decide +kernel
theorem dX11_turningsFrom_256 : decode cX11_turningsFrom 256 = .ok (.istore_n 2, 1) := by decide +kernel
theorem dX11_turningsFrom_257 : decode cX11_turningsFrom 257 = .ok (.iload_n 2, 1) := by decide +kernel
theorem dX11_turningsFrom_258 : decode cX11_turningsFrom 258 = .ok (.bipush 7, 2) := by decide +kernel
theorem dX11_turningsFrom_260 : decode cX11_turningsFrom 260 = .ok (.if_icmp .ge 139, 3) := by decide +kernel
theorem dX11_turningsFrom_263 : decode cX11_turningsFrom 263 = .ok (.iconst 0, 1) := by decide +kernel
theorem dX11_turningsFrom_264 : decode cX11_turningsFrom 264 = .ok (.istore_n 3, 1) := by decide +kernel
theorem dX11_turningsFrom_265 : decode cX11_turningsFrom 265 = .ok (.iconst 1, 1) := by decide +kernel
theorem dX11_turningsFrom_266 : decode cX11_turningsFrom 266 = .ok (.istore 4, 2) := by decide +kernel
theorem dX11_turningsFrom_268 : decode cX11_turningsFrom 268 = .ok (.iload 4, 2) := by decide +kernel
theorem dX11_turningsFrom_270 : decode cX11_turningsFrom 270 = .ok (.bipush 7, 2) := by decide +kernel
theorem dX11_turningsFrom_272 : decode cX11_turningsFrom 272 = .ok (.if_icmp .ge 42, 3) := by decide +kernel
theorem dX11_turningsFrom_275 : decode cX11_turningsFrom 275 = .ok (.aload_n 0, 1) := by decide +kernel
theorem dX11_turningsFrom_276 : decode cX11_turningsFrom 276 = .ok (.getfield 84, 3) := by decide +kernel
theorem dX11_turningsFrom_279 : decode cX11_turningsFrom 279 = .ok (.bipush 7, 2) := by decide +kernel
theorem dX11_turningsFrom_281 : decode cX11_turningsFrom 281 = .ok (.iload 4, 2) := by decide +kernel
theorem dX11_turningsFrom_283 : decode cX11_turningsFrom 283 = .ok (.imul, 1) := by decide +kernel
theorem dX11_turningsFrom_284 : decode cX11_turningsFrom 284 = .ok (.iload_n 2, 1) := by decide +kernel
theorem dX11_turningsFrom_285 : decode cX11_turningsFrom 285 = .ok (.iadd, 1) := by decide +kernel
theorem dX11_turningsFrom_286 : decode cX11_turningsFrom 286 = .ok (.iaload, 1) := by decide +kernel
theorem dX11_turningsFrom_287 : decode cX11_turningsFrom 287 = .ok (.aload_n 0, 1) := by decide +kernel
theorem dX11_turningsFrom_288 : decode cX11_turningsFrom 288 = .ok (.getfield 84, 3) := by decide +kernel
theorem dX11_turningsFrom_291 : decode cX11_turningsFrom 291 = .ok (.bipush 7, 2) := by decide +kernel
theorem dX11_turningsFrom_293 : decode cX11_turningsFrom 293 = .ok (.iload_n 3, 1) := by decide +kernel
theorem dX11_turningsFrom_294 : decode cX11_turningsFrom 294 = .ok (.imul, 1) := by decide +kernel
theorem dX11_turningsFrom_295 : decode cX11_turningsFrom 295 = .ok (.iload_n 2, 1) := by decide +kernel
theorem dX11_turningsFrom_296 : decode cX11_turningsFrom 296 = .ok (.iadd, 1) := by decide +kernel
theorem dX11_turningsFrom_297 : decode cX11_turningsFrom 297 = .ok (.iaload, 1) := by decide +kernel
theorem dX11_turningsFrom_298 : decode cX11_turningsFrom 298 = .ok (.if_icmp .ge 8, 3) := by decide +kernel
theorem dX11_turningsFrom_301 : decode cX11_turningsFrom 301 = .ok (.iload 4, 2) := by decide +kernel
theorem dX11_turningsFrom_303 : decode cX11_turningsFrom 303 = .ok (.goto 4, 3) := by decide +kernel
theorem dX11_turningsFrom_306 : decode cX11_turningsFrom 306 = .ok (.iload_n 3, 1) := by decide +kernel
theorem dX11_turningsFrom_307 : decode cX11_turningsFrom 307 = .ok (.istore_n 3, 1) := by decide +kernel
theorem dX11_turningsFrom_308 : decode cX11_turningsFrom 308 = .ok (.iinc 4 1, 3) := by decide +kernel
theorem dX11_turningsFrom_311 : decode cX11_turningsFrom 311 = .ok (.goto (-43), 3) := by decide +kernel
theorem dX11_turningsFrom_314 : decode cX11_turningsFrom 314 = .ok (.bipush 7, 2) := by decide +kernel
theorem dX11_turningsFrom_316 : decode cX11_turningsFrom 316 = .ok (.iload_n 1, 1) := by decide +kernel
theorem dX11_turningsFrom_317 : decode cX11_turningsFrom 317 = .ok (.imul, 1) := by decide +kernel
theorem dX11_turningsFrom_318 : decode cX11_turningsFrom 318 = .ok (.iload_n 2, 1) := by decide +kernel
theorem dX11_turningsFrom_319 : decode cX11_turningsFrom 319 = .ok (.iadd, 1) := by decide +kernel
theorem dX11_turningsFrom_320 : decode cX11_turningsFrom 320 = .ok (.istore 4, 2) := by decide +kernel
theorem dX11_turningsFrom_322 : decode cX11_turningsFrom 322 = .ok (.aload_n 0, 1) := by decide +kernel
theorem dX11_turningsFrom_323 : decode cX11_turningsFrom 323 = .ok (.getfield 75, 3) := by decide +kernel
theorem dX11_turningsFrom_326 : decode cX11_turningsFrom 326 = .ok (.iload 4, 2) := by decide +kernel
theorem dX11_turningsFrom_328 : decode cX11_turningsFrom 328 = .ok (.aload_n 0, 1) := by decide +kernel
theorem dX11_turningsFrom_329 : decode cX11_turningsFrom 329 = .ok (.getfield 84, 3) := by decide +kernel
theorem dX11_turningsFrom_332 : decode cX11_turningsFrom 332 = .ok (.bipush 7, 2) := by decide +kernel
theorem dX11_turningsFrom_334 : decode cX11_turningsFrom 334 = .ok (.iload_n 3, 1) := by decide +kernel
theorem dX11_turningsFrom_335 : decode cX11_turningsFrom 335 = .ok (.imul, 1) := by decide +kernel
theorem dX11_turningsFrom_336 : decode cX11_turningsFrom 336 = .ok (.iload_n 2, 1) := by decide +kernel
theorem dX11_turningsFrom_337 : decode cX11_turningsFrom 337 = .ok (.iadd, 1) := by decide +kernel
theorem dX11_turningsFrom_338 : decode cX11_turningsFrom 338 = .ok (.iaload, 1) := by decide +kernel
theorem dX11_turningsFrom_339 : decode cX11_turningsFrom 339 = .ok (.iastore, 1) := by decide +kernel
theorem dX11_turningsFrom_340 : decode cX11_turningsFrom 340 = .ok (.aload_n 0, 1) := by decide +kernel
theorem dX11_turningsFrom_341 : decode cX11_turningsFrom 341 = .ok (.getfield 78, 3) := by decide +kernel
theorem dX11_turningsFrom_344 : decode cX11_turningsFrom 344 = .ok (.iload 4, 2) := by decide +kernel
theorem dX11_turningsFrom_346 : decode cX11_turningsFrom 346 = .ok (.iload_n 3, 1) := by decide +kernel
theorem dX11_turningsFrom_347 : decode cX11_turningsFrom 347 = .ok (.iastore, 1) := by decide +kernel
theorem dX11_turningsFrom_348 : decode cX11_turningsFrom 348 = .ok (.iconst 0, 1) := by decide +kernel
theorem dX11_turningsFrom_349 : decode cX11_turningsFrom 349 = .ok (.istore 5, 2) := by decide +kernel
theorem dX11_turningsFrom_351 : decode cX11_turningsFrom 351 = .ok (.iload 5, 2) := by decide +kernel
theorem dX11_turningsFrom_353 : decode cX11_turningsFrom 353 = .ok (.iload_n 3, 1) := by decide +kernel
theorem dX11_turningsFrom_354 : decode cX11_turningsFrom 354 = .ok (.if_icmp .ge 39, 3) := by decide +kernel
theorem dX11_turningsFrom_357 : decode cX11_turningsFrom 357 = .ok (.aload_n 0, 1) := by decide +kernel
theorem dX11_turningsFrom_358 : decode cX11_turningsFrom 358 = .ok (.getfield 81, 3) := by decide +kernel
theorem dX11_turningsFrom_361 : decode cX11_turningsFrom 361 = .ok (.bipush 6, 2) := by decide +kernel
theorem dX11_turningsFrom_363 : decode cX11_turningsFrom 363 = .ok (.iload 4, 2) := by decide +kernel
theorem dX11_turningsFrom_365 : decode cX11_turningsFrom 365 = .ok (.imul, 1) := by decide +kernel
theorem dX11_turningsFrom_366 : decode cX11_turningsFrom 366 = .ok (.iload 5, 2) := by decide +kernel
theorem dX11_turningsFrom_368 : decode cX11_turningsFrom 368 = .ok (.iadd, 1) := by decide +kernel
theorem dX11_turningsFrom_369 : decode cX11_turningsFrom 369 = .ok (.aload_n 0, 1) := by decide +kernel
theorem dX11_turningsFrom_370 : decode cX11_turningsFrom 370 = .ok (.getfield 87, 3) := by decide +kernel
theorem dX11_turningsFrom_373 : decode cX11_turningsFrom 373 = .ok (.bipush 6, 2) := by decide +kernel
theorem dX11_turningsFrom_375 : decode cX11_turningsFrom 375 = .ok (.bipush 7, 2) := by decide +kernel
theorem dX11_turningsFrom_377 : decode cX11_turningsFrom 377 = .ok (.iload_n 3, 1) := by decide +kernel
theorem dX11_turningsFrom_378 : decode cX11_turningsFrom 378 = .ok (.imul, 1) := by decide +kernel
theorem dX11_turningsFrom_379 : decode cX11_turningsFrom 379 = .ok (.iload_n 2, 1) := by decide +kernel
theorem dX11_turningsFrom_380 : decode cX11_turningsFrom 380 = .ok (.iadd, 1) := by decide +kernel
theorem dX11_turningsFrom_381 : decode cX11_turningsFrom 381 = .ok (.imul, 1) := by decide +kernel
theorem dX11_turningsFrom_382 : decode cX11_turningsFrom 382 = .ok (.iload 5, 2) := by decide +kernel
theorem dX11_turningsFrom_384 : decode cX11_turningsFrom 384 = .ok (.iadd, 1) := by decide +kernel
theorem dX11_turningsFrom_385 : decode cX11_turningsFrom 385 = .ok (.iaload, 1) := by decide +kernel
theorem dX11_turningsFrom_386 : decode cX11_turningsFrom 386 = .ok (.iastore, 1) := by decide +kernel
theorem dX11_turningsFrom_387 : decode cX11_turningsFrom 387 = .ok (.iinc 5 1, 3) := by decide +kernel
theorem dX11_turningsFrom_390 : decode cX11_turningsFrom 390 = .ok (.goto (-39), 3) := by decide +kernel
theorem dX11_turningsFrom_393 : decode cX11_turningsFrom 393 = .ok (.iinc 2 1, 3) := by decide +kernel
theorem dX11_turningsFrom_396 : decode cX11_turningsFrom 396 = .ok (.goto (-139), 3) := by decide +kernel
theorem dX11_turningsFrom_399 : decode cX11_turningsFrom 399 = .ok (.return_, 1) := by decide +kernel
theorem dX11_measure_0 : decode cX11_measure 0 = .ok (.iconst 0, 1) := by decide +kernel
theorem dX11_measure_1 : decode cX11_measure 1 = .ok (.istore_n 1, 1) := by decide +kernel
theorem dX11_measure_2 : decode cX11_measure 2 = .ok (.iload_n 1, 1) := by decide +kernel
theorem dX11_measure_3 : decode cX11_measure 3 = .ok (.bipush 7, 2) := by decide +kernel
theorem dX11_measure_5 : decode cX11_measure 5 = .ok (.if_icmp .ge 14, 3) := by decide +kernel
theorem dX11_measure_8 : decode cX11_measure 8 = .ok (.aload_n 0, 1) := by decide +kernel
theorem dX11_measure_9 : decode cX11_measure 9 = .ok (.iload_n 1, 1) := by decide +kernel
theorem dX11_measure_10 : decode cX11_measure 10 = .ok (.invokevirtual 185, 3) := by decide +kernel
theorem dX11_measure_13 : decode cX11_measure 13 = .ok (.iinc 1 1, 3) := by decide +kernel
theorem dX11_measure_16 : decode cX11_measure 16 = .ok (.goto (-14), 3) := by decide +kernel
theorem dX11_measure_19 : decode cX11_measure 19 = .ok (.return_, 1) := by decide +kernel
theorem dX11_turning_0 : decode cX11_turning 0 = .ok (.aload_n 0, 1) := by decide +kernel
theorem dX11_turning_1 : decode cX11_turning 1 = .ok (.iconst 0, 1) := by decide +kernel
theorem dX11_turning_2 : decode cX11_turning 2 = .ok (.putfield 131, 3) := by decide +kernel
theorem dX11_turning_5 : decode cX11_turning 5 = .ok (.iload_n 1, 1) := by decide +kernel
theorem dX11_turning_6 : decode cX11_turning 6 = .ok (.i2l, 1) := by decide +kernel
theorem dX11_turning_7 : decode cX11_turning 7 = .ok (.lconst 0, 1) := by decide +kernel
theorem dX11_turning_8 : decode cX11_turning 8 = .ok (.ldc2_w 150, 3) := by decide +kernel
theorem dX11_turning_11 : decode cX11_turning 11 = .ok (.invokestatic 138, 3) := by decide +kernel
theorem dX11_turning_14 : decode cX11_turning 14 = .ok (.ifCond .eq 19, 3) := by decide +kernel
theorem dX11_turning_17 : decode cX11_turning 17 = .ok (.iload_n 2, 1) := by decide +kernel
theorem dX11_turning_18 : decode cX11_turning 18 = .ok (.i2l, 1) := by decide +kernel
theorem dX11_turning_19 : decode cX11_turning 19 = .ok (.lconst 0, 1) := by decide +kernel
theorem dX11_turning_20 : decode cX11_turning 20 = .ok (.ldc2_w 150, 3) := by decide +kernel
theorem dX11_turning_23 : decode cX11_turning 23 = .ok (.invokestatic 138, 3) := by decide +kernel
theorem dX11_turning_26 : decode cX11_turning 26 = .ok (.ifCond .eq 7, 3) := by decide +kernel
theorem dX11_turning_29 : decode cX11_turning 29 = .ok (.iload_n 3, 1) := by decide +kernel
theorem dX11_turning_30 : decode cX11_turning 30 = .ok (.ifCond .ge 6, 3) := by decide +kernel
theorem dX11_turning_33 : decode cX11_turning 33 = .ok (.bipush (-3), 2) := by decide +kernel
theorem dX11_turning_35 : decode cX11_turning 35 = .ok (.ireturn, 1) := by decide +kernel
theorem dX11_turning_36 : decode cX11_turning 36 = .ok (.aload_n 0, 1) := by decide +kernel
theorem dX11_turning_37 : decode cX11_turning 37 = .ok (.invokevirtual 189, 3) := by decide +kernel
theorem dX11_turning_40 : decode cX11_turning 40 = .ok (.bipush 7, 2) := by decide +kernel
theorem dX11_turning_42 : decode cX11_turning 42 = .ok (.iload_n 1, 1) := by decide +kernel
theorem dX11_turning_43 : decode cX11_turning 43 = .ok (.imul, 1) := by decide +kernel
theorem dX11_turning_44 : decode cX11_turning 44 = .ok (.iload_n 2, 1) := by decide +kernel
theorem dX11_turning_45 : decode cX11_turning 45 = .ok (.iadd, 1) := by decide +kernel
theorem dX11_turning_46 : decode cX11_turning 46 = .ok (.istore 4, 2) := by decide +kernel
theorem dX11_turning_48 : decode cX11_turning 48 = .ok (.aload_n 0, 1) := by decide +kernel
theorem dX11_turning_49 : decode cX11_turning 49 = .ok (.getfield 75, 3) := by decide +kernel
theorem dX11_turning_52 : decode cX11_turning 52 = .ok (.iload 4, 2) := by decide +kernel
theorem dX11_turning_54 : decode cX11_turning 54 = .ok (.iaload, 1) := by decide +kernel
theorem dX11_turning_55 : decode cX11_turning 55 = .ok (.ldc 180, 2) := by decide +kernel
theorem dX11_turning_57 : decode cX11_turning 57 = .ok (.if_icmp .lt 5, 3) := by decide +kernel
theorem dX11_turning_60 : decode cX11_turning 60 = .ok (.iconst (-1), 1) := by decide +kernel
theorem dX11_turning_61 : decode cX11_turning 61 = .ok (.ireturn, 1) := by decide +kernel
theorem dX11_turning_62 : decode cX11_turning 62 = .ok (.iload_n 3, 1) := by decide +kernel
theorem dX11_turning_63 : decode cX11_turning 63 = .ok (.ifCond .ne 13, 3) := by decide +kernel
theorem dX11_turning_66 : decode cX11_turning 66 = .ok (.aload_n 0, 1) := by decide +kernel
theorem dX11_turning_67 : decode cX11_turning 67 = .ok (.getfield 75, 3) := by decide +kernel
theorem dX11_turning_70 : decode cX11_turning 70 = .ok (.iload 4, 2) := by decide +kernel
theorem dX11_turning_72 : decode cX11_turning 72 = .ok (.iaload, 1) := by decide +kernel
theorem dX11_turning_73 : decode cX11_turning 73 = .ok (.goto 49, 3) := by decide +kernel
theorem dX11_turning_76 : decode cX11_turning 76 = .ok (.iload_n 3, 1) := by decide +kernel
theorem dX11_turning_77 : decode cX11_turning 77 = .ok (.iconst 1, 1) := by decide +kernel
theorem dX11_turning_78 : decode cX11_turning 78 = .ok (.if_icmp .ne 13, 3) := by decide +kernel
theorem dX11_turning_81 : decode cX11_turning 81 = .ok (.aload_n 0, 1) := by decide +kernel
theorem dX11_turning_82 : decode cX11_turning 82 = .ok (.getfield 78, 3) := by decide +kernel
theorem dX11_turning_85 : decode cX11_turning 85 = .ok (.iload 4, 2) := by decide +kernel
theorem dX11_turning_87 : decode cX11_turning 87 = .ok (.iaload, 1) := by decide +kernel
theorem dX11_turning_88 : decode cX11_turning 88 = .ok (.goto 34, 3) := by decide +kernel
theorem dX11_turning_91 : decode cX11_turning 91 = .ok (.iload_n 3, 1) := by decide +kernel
theorem dX11_turning_92 : decode cX11_turning 92 = .ok (.iconst 2, 1) := by decide +kernel
theorem dX11_turning_93 : decode cX11_turning 93 = .ok (.isub, 1) := by decide +kernel
theorem dX11_turning_94 : decode cX11_turning 94 = .ok (.aload_n 0, 1) := by decide +kernel
theorem dX11_turning_95 : decode cX11_turning 95 = .ok (.getfield 78, 3) := by decide +kernel
theorem dX11_turning_98 : decode cX11_turning 98 = .ok (.iload 4, 2) := by decide +kernel
theorem dX11_turning_100 : decode cX11_turning 100 = .ok (.iaload, 1) := by decide +kernel
theorem dX11_turning_101 : decode cX11_turning 101 = .ok (.if_icmp .ge 20, 3) := by decide +kernel
theorem dX11_turning_104 : decode cX11_turning 104 = .ok (.aload_n 0, 1) := by decide +kernel
theorem dX11_turning_105 : decode cX11_turning 105 = .ok (.getfield 81, 3) := by decide +kernel
theorem dX11_turning_108 : decode cX11_turning 108 = .ok (.bipush 6, 2) := by decide +kernel
theorem dX11_turning_110 : decode cX11_turning 110 = .ok (.iload 4, 2) := by decide +kernel
theorem dX11_turning_112 : decode cX11_turning 112 = .ok (.imul, 1) := by decide +kernel
theorem dX11_turning_113 : decode cX11_turning 113 = .ok (.iload_n 3, 1) := by decide +kernel
theorem dX11_turning_114 : decode cX11_turning 114 = .ok (.iadd, 1) := by decide +kernel
theorem dX11_turning_115 : decode cX11_turning 115 = .ok (.iconst 2, 1) := by decide +kernel
theorem dX11_turning_116 : decode cX11_turning 116 = .ok (.isub, 1) := by decide +kernel
theorem dX11_turning_117 : decode cX11_turning 117 = .ok (.iaload, 1) := by decide +kernel
theorem dX11_turning_118 : decode cX11_turning 118 = .ok (.goto 4, 3) := by decide +kernel
theorem dX11_turning_121 : decode cX11_turning 121 = .ok (.iconst (-1), 1) := by decide +kernel
theorem dX11_turning_122 : decode cX11_turning 122 = .ok (.ireturn, 1) := by decide +kernel
theorem dX11_fail_0 : decode cX11_fail 0 = .ok (.aload_n 0, 1) := by decide +kernel
theorem dX11_fail_1 : decode cX11_fail 1 = .ok (.iconst 1, 1) := by decide +kernel
theorem dX11_fail_2 : decode cX11_fail 2 = .ok (.putfield 192, 3) := by decide +kernel
theorem dX11_fail_5 : decode cX11_fail 5 = .ok (.aload_n 0, 1) := by decide +kernel
theorem dX11_fail_6 : decode cX11_fail 6 = .ok (.iload_n 1, 1) := by decide +kernel
theorem dX11_fail_7 : decode cX11_fail 7 = .ok (.putfield 196, 3) := by decide +kernel
theorem dX11_fail_10 : decode cX11_fail 10 = .ok (.aload_n 0, 1) := by decide +kernel
theorem dX11_fail_11 : decode cX11_fail 11 = .ok (.iload_n 2, 1) := by decide +kernel
theorem dX11_fail_12 : decode cX11_fail 12 = .ok (.putfield 199, 3) := by decide +kernel
theorem dX11_fail_15 : decode cX11_fail 15 = .ok (.return_, 1) := by decide +kernel
theorem dX11_turnIt_0 : decode cX11_turnIt 0 = .ok (.bipush 7, 2) := by decide +kernel
theorem dX11_turnIt_2 : decode cX11_turnIt 2 = .ok (.iload_n 1, 1) := by decide +kernel
theorem dX11_turnIt_3 : decode cX11_turnIt 3 = .ok (.imul, 1) := by decide +kernel
theorem dX11_turnIt_4 : decode cX11_turnIt 4 = .ok (.iload_n 2, 1) := by decide +kernel
theorem dX11_turnIt_5 : decode cX11_turnIt 5 = .ok (.iadd, 1) := by decide +kernel
theorem dX11_turnIt_6 : decode cX11_turnIt 6 = .ok (.istore 6, 2) := by decide +kernel
theorem dX11_turnIt_8 : decode cX11_turnIt 8 = .ok (.aload_n 0, 1) := by decide +kernel
theorem dX11_turnIt_9 : decode cX11_turnIt 9 = .ok (.lload_n 3, 1) := by decide +kernel
theorem dX11_turnIt_10 : decode cX11_turnIt 10 = .ok (.putfield 202, 3) := by decide +kernel
theorem dX11_turnIt_13 : decode cX11_turnIt 13 = .ok (.iconst 0, 1) := by decide +kernel
theorem dX11_turnIt_14 : decode cX11_turnIt 14 = .ok (.istore 7, 2) := by decide +kernel
theorem dX11_turnIt_16 : decode cX11_turnIt 16 = .ok (.iload 7, 2) := by decide +kernel
theorem dX11_turnIt_18 : decode cX11_turnIt 18 = .ok (.aload_n 0, 1) := by decide +kernel
theorem dX11_turnIt_19 : decode cX11_turnIt 19 = .ok (.getfield 78, 3) := by decide +kernel
theorem dX11_turnIt_22 : decode cX11_turnIt 22 = .ok (.iload 6, 2) := by decide +kernel
theorem dX11_turnIt_24 : decode cX11_turnIt 24 = .ok (.iaload, 1) := by decide +kernel
theorem dX11_turnIt_25 : decode cX11_turnIt 25 = .ok (.if_icmp .ge 55, 3) := by decide +kernel
theorem dX11_turnIt_28 : decode cX11_turnIt 28 = .ok (.aload_n 0, 1) := by decide +kernel
theorem dX11_turnIt_29 : decode cX11_turnIt 29 = .ok (.getfield 81, 3) := by decide +kernel
theorem dX11_turnIt_32 : decode cX11_turnIt 32 = .ok (.bipush 6, 2) := by decide +kernel
theorem dX11_turnIt_34 : decode cX11_turnIt 34 = .ok (.iload 6, 2) := by decide +kernel
theorem dX11_turnIt_36 : decode cX11_turnIt 36 = .ok (.imul, 1) := by decide +kernel
theorem dX11_turnIt_37 : decode cX11_turnIt 37 = .ok (.iload 7, 2) := by decide +kernel
theorem dX11_turnIt_39 : decode cX11_turnIt 39 = .ok (.iadd, 1) := by decide +kernel
theorem dX11_turnIt_40 : decode cX11_turnIt 40 = .ok (.iaload, 1) := by decide +kernel
theorem dX11_turnIt_41 : decode cX11_turnIt 41 = .ok (.istore 8, 2) := by decide +kernel
theorem dX11_turnIt_43 : decode cX11_turnIt 43 = .ok (.aload_n 0, 1) := by decide +kernel
theorem dX11_turnIt_44 : decode cX11_turnIt 44 = .ok (.iload 8, 2) := by decide +kernel
theorem dX11_turnIt_46 : decode cX11_turnIt 46 = .ok (.aload_n 0, 1) := by decide +kernel
theorem dX11_turnIt_47 : decode cX11_turnIt 47 = .ok (.getfield 202, 3) := by decide +kernel
theorem dX11_turnIt_50 : decode cX11_turnIt 50 = .ok (.invokevirtual 205, 3) := by decide +kernel
theorem dX11_turnIt_53 : decode cX11_turnIt 53 = .ok (.ifCond .ne 13, 3) := by decide +kernel
theorem dX11_turnIt_56 : decode cX11_turnIt 56 = .ok (.aload_n 0, 1) := by decide +kernel
theorem dX11_turnIt_57 : decode cX11_turnIt 57 = .ok (.iload 5, 2) := by decide +kernel
theorem dX11_turnIt_59 : decode cX11_turnIt 59 = .ok (.iload 8, 2) := by decide +kernel
theorem dX11_turnIt_61 : decode cX11_turnIt 61 = .ok (.invokevirtual 208, 3) := by decide +kernel
theorem dX11_turnIt_64 : decode cX11_turnIt 64 = .ok (.iconst 0, 1) := by decide +kernel
theorem dX11_turnIt_65 : decode cX11_turnIt 65 = .ok (.ireturn, 1) := by decide +kernel
theorem dX11_turnIt_66 : decode cX11_turnIt 66 = .ok (.aload_n 0, 1) := by decide +kernel
theorem dX11_turnIt_67 : decode cX11_turnIt 67 = .ok (.aload_n 0, 1) := by decide +kernel
theorem dX11_turnIt_68 : decode cX11_turnIt 68 = .ok (.getfield 158, 3) := by decide +kernel
theorem dX11_turnIt_71 : decode cX11_turnIt 71 = .ok (.putfield 202, 3) := by decide +kernel
theorem dX11_turnIt_74 : decode cX11_turnIt 74 = .ok (.iinc 7 1, 3) := by decide +kernel
theorem dX11_turnIt_77 : decode cX11_turnIt 77 = .ok (.goto (-61), 3) := by decide +kernel
theorem dX11_turnIt_80 : decode cX11_turnIt 80 = .ok (.iconst 1, 1) := by decide +kernel
theorem dX11_turnIt_81 : decode cX11_turnIt 81 = .ok (.ireturn, 1) := by decide +kernel
theorem dX11_turn_0 : decode cX11_turn 0 = .ok (.aload_n 0, 1) := by decide +kernel
theorem dX11_turn_1 : decode cX11_turn 1 = .ok (.iconst 0, 1) := by decide +kernel
theorem dX11_turn_2 : decode cX11_turn 2 = .ok (.putfield 131, 3) := by decide +kernel
theorem dX11_turn_5 : decode cX11_turn 5 = .ok (.iload_n 1, 1) := by decide +kernel
theorem dX11_turn_6 : decode cX11_turn 6 = .ok (.i2l, 1) := by decide +kernel
theorem dX11_turn_7 : decode cX11_turn 7 = .ok (.lconst 0, 1) := by decide +kernel
theorem dX11_turn_8 : decode cX11_turn 8 = .ok (.ldc2_w 150, 3) := by decide +kernel
theorem dX11_turn_11 : decode cX11_turn 11 = .ok (.invokestatic 138, 3) := by decide +kernel
theorem dX11_turn_14 : decode cX11_turn 14 = .ok (.ifCond .eq 15, 3) := by decide +kernel
theorem dX11_turn_17 : decode cX11_turn 17 = .ok (.iload_n 2, 1) := by decide +kernel
theorem dX11_turn_18 : decode cX11_turn 18 = .ok (.i2l, 1) := by decide +kernel
theorem dX11_turn_19 : decode cX11_turn 19 = .ok (.lconst 0, 1) := by decide +kernel
theorem dX11_turn_20 : decode cX11_turn 20 = .ok (.ldc2_w 150, 3) := by decide +kernel
theorem dX11_turn_23 : decode cX11_turn 23 = .ok (.invokestatic 138, 3) := by decide +kernel
theorem dX11_turn_26 : decode cX11_turn 26 = .ok (.ifCond .ne 6, 3) := by decide +kernel
theorem dX11_turn_29 : decode cX11_turn 29 = .ok (.bipush (-3), 2) := by decide +kernel
theorem dX11_turn_31 : decode cX11_turn 31 = .ok (.ireturn, 1) := by decide +kernel
theorem dX11_turn_32 : decode cX11_turn 32 = .ok (.aload_n 0, 1) := by decide +kernel
theorem dX11_turn_33 : decode cX11_turn 33 = .ok (.invokevirtual 189, 3) := by decide +kernel
theorem dX11_turn_36 : decode cX11_turn 36 = .ok (.aload_n 0, 1) := by decide +kernel
theorem dX11_turn_37 : decode cX11_turn 37 = .ok (.getfield 75, 3) := by decide +kernel
theorem dX11_turn_40 : decode cX11_turn 40 = .ok (.bipush 7, 2) := by decide +kernel
theorem dX11_turn_42 : decode cX11_turn 42 = .ok (.iload_n 1, 1) := by decide +kernel
theorem dX11_turn_43 : decode cX11_turn 43 = .ok (.imul, 1) := by decide +kernel
theorem dX11_turn_44 : decode cX11_turn 44 = .ok (.iload_n 2, 1) := by decide +kernel
theorem dX11_turn_45 : decode cX11_turn 45 = .ok (.iadd, 1) := by decide +kernel
theorem dX11_turn_46 : decode cX11_turn 46 = .ok (.iaload, 1) := by decide +kernel
theorem dX11_turn_47 : decode cX11_turn 47 = .ok (.ldc 180, 2) := by decide +kernel
theorem dX11_turn_49 : decode cX11_turn 49 = .ok (.if_icmp .lt 5, 3) := by decide +kernel
theorem dX11_turn_52 : decode cX11_turn 52 = .ok (.iconst (-1), 1) := by decide +kernel
theorem dX11_turn_53 : decode cX11_turn 53 = .ok (.ireturn, 1) := by decide +kernel
theorem dX11_turn_54 : decode cX11_turn 54 = .ok (.iload_n 1, 1) := by decide +kernel
theorem dX11_turn_55 : decode cX11_turn 55 = .ok (.lload_n 3, 1) := by decide +kernel
theorem dX11_turn_56 : decode cX11_turn 56 = .ok (.invokestatic 176, 3) := by decide +kernel
theorem dX11_turn_59 : decode cX11_turn 59 = .ok (.ifCond .ne 12, 3) := by decide +kernel
theorem dX11_turn_62 : decode cX11_turn 62 = .ok (.aload_n 0, 1) := by decide +kernel
theorem dX11_turn_63 : decode cX11_turn 63 = .ok (.iconst 0, 1) := by decide +kernel
theorem dX11_turn_64 : decode cX11_turn 64 = .ok (.iconst (-1), 1) := by decide +kernel
theorem dX11_turn_65 : decode cX11_turn 65 = .ok (.invokevirtual 208, 3) := by decide +kernel
theorem dX11_turn_68 : decode cX11_turn 68 = .ok (.bipush (-7), 2) := by decide +kernel
theorem dX11_turn_70 : decode cX11_turn 70 = .ok (.ireturn, 1) := by decide +kernel
theorem dX11_turn_71 : decode cX11_turn 71 = .ok (.aload_n 0, 1) := by decide +kernel
theorem dX11_turn_72 : decode cX11_turn 72 = .ok (.iload_n 1, 1) := by decide +kernel
theorem dX11_turn_73 : decode cX11_turn 73 = .ok (.iload_n 2, 1) := by decide +kernel
theorem dX11_turn_74 : decode cX11_turn 74 = .ok (.lload_n 3, 1) := by decide +kernel
theorem dX11_turn_75 : decode cX11_turn 75 = .ok (.iconst 1, 1) := by decide +kernel
theorem dX11_turn_76 : decode cX11_turn 76 = .ok (.invokevirtual 212, 3) := by decide +kernel
theorem dX11_turn_79 : decode cX11_turn 79 = .ok (.ifCond .ne 6, 3) := by decide +kernel
theorem dX11_turn_82 : decode cX11_turn 82 = .ok (.bipush (-7), 2) := by decide +kernel
theorem dX11_turn_84 : decode cX11_turn 84 = .ok (.ireturn, 1) := by decide +kernel
theorem dX11_turn_85 : decode cX11_turn 85 = .ok (.aload_n 0, 1) := by decide +kernel
theorem dX11_turn_86 : decode cX11_turn 86 = .ok (.aload_n 0, 1) := by decide +kernel
theorem dX11_turn_87 : decode cX11_turn 87 = .ok (.getfield 202, 3) := by decide +kernel
theorem dX11_turn_90 : decode cX11_turn 90 = .ok (.putfield 216, 3) := by decide +kernel
theorem dX11_turn_93 : decode cX11_turn 93 = .ok (.iconst 0, 1) := by decide +kernel
theorem dX11_turn_94 : decode cX11_turn 94 = .ok (.ireturn, 1) := by decide +kernel
theorem dX11_add_0 : decode cX11_add 0 = .ok (.iload_n 2, 1) := by decide +kernel
theorem dX11_add_1 : decode cX11_add 1 = .ok (.i2l, 1) := by decide +kernel
theorem dX11_add_2 : decode cX11_add 2 = .ok (.lconst 0, 1) := by decide +kernel
theorem dX11_add_3 : decode cX11_add 3 = .ok (.ldc2_w 219, 3) := by decide +kernel
theorem dX11_add_6 : decode cX11_add 6 = .ok (.invokestatic 138, 3) := by decide +kernel
theorem dX11_add_9 : decode cX11_add 9 = .ok (.ifCond .eq 16, 3) := by decide +kernel
theorem dX11_add_12 : decode cX11_add 12 = .ok (.iload_n 3, 1) := by decide +kernel
theorem dX11_add_13 : decode cX11_add 13 = .ok (.ifCond .lt 12, 3) := by decide +kernel
theorem dX11_add_16 : decode cX11_add 16 = .ok (.iload_n 3, 1) := by decide +kernel
theorem dX11_add_17 : decode cX11_add 17 = .ok (.bipush 8, 2) := by decide +kernel
theorem dX11_add_19 : decode cX11_add 19 = .ok (.irem, 1) := by decide +kernel
theorem dX11_add_20 : decode cX11_add 20 = .ok (.bipush 7, 2) := by decide +kernel
theorem dX11_add_22 : decode cX11_add 22 = .ok (.if_icmp .ne 6, 3) := by decide +kernel
theorem dX11_add_25 : decode cX11_add 25 = .ok (.bipush (-3), 2) := by decide +kernel
theorem dX11_add_27 : decode cX11_add 27 = .ok (.ireturn, 1) := by decide +kernel
theorem dX11_add_28 : decode cX11_add 28 = .ok (.iconst 0, 1) := by decide +kernel
theorem dX11_add_29 : decode cX11_add 29 = .ok (.istore 4, 2) := by decide +kernel
theorem dX11_add_31 : decode cX11_add 31 = .ok (.iload_n 3, 1) := by decide +kernel
theorem dX11_add_32 : decode cX11_add 32 = .ok (.bipush 8, 2) := by decide +kernel
theorem dX11_add_34 : decode cX11_add 34 = .ok (.idiv, 1) := by decide +kernel
theorem dX11_add_35 : decode cX11_add 35 = .ok (.istore 5, 2) := by decide +kernel
theorem dX11_add_37 : decode cX11_add 37 = .ok (.iload 5, 2) := by decide +kernel
theorem dX11_add_39 : decode cX11_add 39 = .ok (.ifCond .le 33, 3) := by decide +kernel
theorem dX11_add_42 : decode cX11_add 42 = .ok (.iload 5, 2) := by decide +kernel
theorem dX11_add_44 : decode cX11_add 44 = .ok (.bipush 8, 2) := by decide +kernel
theorem dX11_add_46 : decode cX11_add 46 = .ok (.irem, 1) := by decide +kernel
theorem dX11_add_47 : decode cX11_add 47 = .ok (.ifCond .eq 9, 3) := by decide +kernel
theorem dX11_add_50 : decode cX11_add 50 = .ok (.iload 4, 2) := by decide +kernel
theorem dX11_add_52 : decode cX11_add 52 = .ok (.iconst 4, 1) := by decide +kernel
theorem dX11_add_53 : decode cX11_add 53 = .ok (.if_icmp .ne 6, 3) := by decide +kernel
theorem dX11_add_56 : decode cX11_add 56 = .ok (.bipush (-3), 2) := by decide +kernel
theorem dX11_add_58 : decode cX11_add 58 = .ok (.ireturn, 1) := by decide +kernel
theorem dX11_add_59 : decode cX11_add 59 = .ok (.iload 5, 2) := by decide +kernel
theorem dX11_add_61 : decode cX11_add 61 = .ok (.bipush 8, 2) := by decide +kernel
theorem dX11_add_63 : decode cX11_add 63 = .ok (.idiv, 1) := by decide +kernel
theorem dX11_add_64 : decode cX11_add 64 = .ok (.istore 5, 2) := by decide +kernel
theorem dX11_add_66 : decode cX11_add 66 = .ok (.iinc 4 1, 3) := by decide +kernel
theorem dX11_add_69 : decode cX11_add 69 = .ok (.goto (-32), 3) := by decide +kernel
theorem dX11_add_72 : decode cX11_add 72 = .ok (.aload_n 0, 1) := by decide +kernel
theorem dX11_add_73 : decode cX11_add 73 = .ok (.getfield 29, 3) := by decide +kernel
theorem dX11_add_76 : decode cX11_add 76 = .ok (.iload_n 1, 1) := by decide +kernel
theorem dX11_add_77 : decode cX11_add 77 = .ok (.iaload, 1) := by decide +kernel
theorem dX11_add_78 : decode cX11_add 78 = .ok (.bipush 6, 2) := by decide +kernel
theorem dX11_add_80 : decode cX11_add 80 = .ok (.if_icmp .ne 6, 3) := by decide +kernel
theorem dX11_add_83 : decode cX11_add 83 = .ok (.bipush (-5), 2) := by decide +kernel
theorem dX11_add_85 : decode cX11_add 85 = .ok (.ireturn, 1) := by decide +kernel
theorem dX11_add_86 : decode cX11_add 86 = .ok (.bipush 6, 2) := by decide +kernel
theorem dX11_add_88 : decode cX11_add 88 = .ok (.iload_n 1, 1) := by decide +kernel
theorem dX11_add_89 : decode cX11_add 89 = .ok (.imul, 1) := by decide +kernel
theorem dX11_add_90 : decode cX11_add 90 = .ok (.aload_n 0, 1) := by decide +kernel
theorem dX11_add_91 : decode cX11_add 91 = .ok (.getfield 29, 3) := by decide +kernel
theorem dX11_add_94 : decode cX11_add 94 = .ok (.iload_n 1, 1) := by decide +kernel
theorem dX11_add_95 : decode cX11_add 95 = .ok (.iaload, 1) := by decide +kernel
theorem dX11_add_96 : decode cX11_add 96 = .ok (.iadd, 1) := by decide +kernel
theorem dX11_add_97 : decode cX11_add 97 = .ok (.istore 6, 2) := by decide +kernel
theorem dX11_add_99 : decode cX11_add 99 = .ok (.aload_n 0, 1) := by decide +kernel
theorem dX11_add_100 : decode cX11_add 100 = .ok (.getfield 32, 3) := by decide +kernel
theorem dX11_add_103 : decode cX11_add 103 = .ok (.iload 6, 2) := by decide +kernel
theorem dX11_add_105 : decode cX11_add 105 = .ok (.iload_n 2, 1) := by decide +kernel
theorem dX11_add_106 : decode cX11_add 106 = .ok (.iastore, 1) := by decide +kernel
theorem dX11_add_107 : decode cX11_add 107 = .ok (.aload_n 0, 1) := by decide +kernel
theorem dX11_add_108 : decode cX11_add 108 = .ok (.getfield 41, 3) := by decide +kernel
theorem dX11_add_111 : decode cX11_add 111 = .ok (.iload 6, 2) := by decide +kernel
theorem dX11_add_113 : decode cX11_add 113 = .ok (.iload_n 3, 1) := by decide +kernel
theorem dX11_add_114 : decode cX11_add 114 = .ok (.bipush 8, 2) := by decide +kernel
theorem dX11_add_116 : decode cX11_add 116 = .ok (.irem, 1) := by decide +kernel
theorem dX11_add_117 : decode cX11_add 117 = .ok (.iastore, 1) := by decide +kernel
theorem dX11_add_118 : decode cX11_add 118 = .ok (.aload_n 0, 1) := by decide +kernel
theorem dX11_add_119 : decode cX11_add 119 = .ok (.getfield 35, 3) := by decide +kernel
theorem dX11_add_122 : decode cX11_add 122 = .ok (.iload 6, 2) := by decide +kernel
theorem dX11_add_124 : decode cX11_add 124 = .ok (.iload 4, 2) := by decide +kernel
theorem dX11_add_126 : decode cX11_add 126 = .ok (.iastore, 1) := by decide +kernel
theorem dX11_add_127 : decode cX11_add 127 = .ok (.iload_n 3, 1) := by decide +kernel
theorem dX11_add_128 : decode cX11_add 128 = .ok (.bipush 8, 2) := by decide +kernel
theorem dX11_add_130 : decode cX11_add 130 = .ok (.idiv, 1) := by decide +kernel
theorem dX11_add_131 : decode cX11_add 131 = .ok (.istore 5, 2) := by decide +kernel
theorem dX11_add_133 : decode cX11_add 133 = .ok (.iconst 0, 1) := by decide +kernel
theorem dX11_add_134 : decode cX11_add 134 = .ok (.istore 7, 2) := by decide +kernel
theorem dX11_add_136 : decode cX11_add 136 = .ok (.iload 7, 2) := by decide +kernel
theorem dX11_add_138 : decode cX11_add 138 = .ok (.iconst 4, 1) := by decide +kernel
theorem dX11_add_139 : decode cX11_add 139 = .ok (.if_icmp .ge 59, 3) := by decide +kernel
theorem dX11_add_142 : decode cX11_add 142 = .ok (.aload_n 0, 1) := by decide +kernel
theorem dX11_add_143 : decode cX11_add 143 = .ok (.getfield 38, 3) := by decide +kernel
theorem dX11_add_146 : decode cX11_add 146 = .ok (.iconst 4, 1) := by decide +kernel
theorem dX11_add_147 : decode cX11_add 147 = .ok (.iload 6, 2) := by decide +kernel
theorem dX11_add_149 : decode cX11_add 149 = .ok (.imul, 1) := by decide +kernel
theorem dX11_add_150 : decode cX11_add 150 = .ok (.iload 7, 2) := by decide +kernel
theorem dX11_add_152 : decode cX11_add 152 = .ok (.iadd, 1) := by decide +kernel
theorem dX11_add_153 : decode cX11_add 153 = .ok (.iload 7, 2) := by decide +kernel
theorem dX11_add_155 : decode cX11_add 155 = .ok (.iload 4, 2) := by decide +kernel
theorem dX11_add_157 : decode cX11_add 157 = .ok (.if_icmp .ge 13, 3) := by decide +kernel
theorem dX11_add_160 : decode cX11_add 160 = .ok (.iload 5, 2) := by decide +kernel
theorem dX11_add_162 : decode cX11_add 162 = .ok (.bipush 8, 2) := by decide +kernel
theorem dX11_add_164 : decode cX11_add 164 = .ok (.irem, 1) := by decide +kernel
theorem dX11_add_165 : decode cX11_add 165 = .ok (.iconst 1, 1) := by decide +kernel
theorem dX11_add_166 : decode cX11_add 166 = .ok (.isub, 1) := by decide +kernel
theorem dX11_add_167 : decode cX11_add 167 = .ok (.goto 4, 3) := by decide +kernel
theorem dX11_add_170 : decode cX11_add 170 = .ok (.iconst 0, 1) := by decide +kernel
theorem dX11_add_171 : decode cX11_add 171 = .ok (.iastore, 1) := by decide +kernel
theorem dX11_add_172 : decode cX11_add 172 = .ok (.aload_n 0, 1) := by decide +kernel
theorem dX11_add_173 : decode cX11_add 173 = .ok (.getfield 53, 3) := by decide +kernel
theorem dX11_add_176 : decode cX11_add 176 = .ok (.iconst 4, 1) := by decide +kernel
theorem dX11_add_177 : decode cX11_add 177 = .ok (.iload 6, 2) := by decide +kernel
theorem dX11_add_179 : decode cX11_add 179 = .ok (.imul, 1) := by decide +kernel
theorem dX11_add_180 : decode cX11_add 180 = .ok (.iload 7, 2) := by decide +kernel
theorem dX11_add_182 : decode cX11_add 182 = .ok (.iadd, 1) := by decide +kernel
theorem dX11_add_183 : decode cX11_add 183 = .ok (.iconst 1, 1) := by decide +kernel
theorem dX11_add_184 : decode cX11_add 184 = .ok (.iastore, 1) := by decide +kernel
theorem dX11_add_185 : decode cX11_add 185 = .ok (.iload 5, 2) := by decide +kernel
theorem dX11_add_187 : decode cX11_add 187 = .ok (.bipush 8, 2) := by decide +kernel
theorem dX11_add_189 : decode cX11_add 189 = .ok (.idiv, 1) := by decide +kernel
theorem dX11_add_190 : decode cX11_add 190 = .ok (.istore 5, 2) := by decide +kernel
theorem dX11_add_192 : decode cX11_add 192 = .ok (.iinc 7 1, 3) := by decide +kernel
theorem dX11_add_195 : decode cX11_add 195 = .ok (.goto (-59), 3) := by decide +kernel
theorem dX11_add_198 : decode cX11_add 198 = .ok (.aload_n 0, 1) := by decide +kernel
theorem dX11_add_199 : decode cX11_add 199 = .ok (.getfield 44, 3) := by decide +kernel
theorem dX11_add_202 : decode cX11_add 202 = .ok (.iload 6, 2) := by decide +kernel
theorem dX11_add_204 : decode cX11_add 204 = .ok (.iconst 0, 1) := by decide +kernel
theorem dX11_add_205 : decode cX11_add 205 = .ok (.iastore, 1) := by decide +kernel
theorem dX11_add_206 : decode cX11_add 206 = .ok (.aload_n 0, 1) := by decide +kernel
theorem dX11_add_207 : decode cX11_add 207 = .ok (.getfield 47, 3) := by decide +kernel
theorem dX11_add_210 : decode cX11_add 210 = .ok (.iload 6, 2) := by decide +kernel
theorem dX11_add_212 : decode cX11_add 212 = .ok (.iconst (-1), 1) := by decide +kernel
theorem dX11_add_213 : decode cX11_add 213 = .ok (.iastore, 1) := by decide +kernel
theorem dX11_add_214 : decode cX11_add 214 = .ok (.aload_n 0, 1) := by decide +kernel
theorem dX11_add_215 : decode cX11_add 215 = .ok (.getfield 50, 3) := by decide +kernel
theorem dX11_add_218 : decode cX11_add 218 = .ok (.iload 6, 2) := by decide +kernel
theorem dX11_add_220 : decode cX11_add 220 = .ok (.iconst 0, 1) := by decide +kernel
theorem dX11_add_221 : decode cX11_add 221 = .ok (.iastore, 1) := by decide +kernel
theorem dX11_add_222 : decode cX11_add 222 = .ok (.aload_n 0, 1) := by decide +kernel
theorem dX11_add_223 : decode cX11_add 223 = .ok (.getfield 29, 3) := by decide +kernel
theorem dX11_add_226 : decode cX11_add 226 = .ok (.iload_n 1, 1) := by decide +kernel
theorem dX11_add_227 : decode cX11_add 227 = .ok (.dup2, 1) := by decide +kernel
theorem dX11_add_228 : decode cX11_add 228 = .ok (.iaload, 1) := by decide +kernel
theorem dX11_add_229 : decode cX11_add 229 = .ok (.iconst 1, 1) := by decide +kernel
theorem dX11_add_230 : decode cX11_add 230 = .ok (.iadd, 1) := by decide +kernel
theorem dX11_add_231 : decode cX11_add 231 = .ok (.iastore, 1) := by decide +kernel
theorem dX11_add_232 : decode cX11_add 232 = .ok (.aload_n 0, 1) := by decide +kernel
theorem dX11_add_233 : decode cX11_add 233 = .ok (.getfield 29, 3) := by decide +kernel
theorem dX11_add_236 : decode cX11_add 236 = .ok (.iload_n 1, 1) := by decide +kernel
theorem dX11_add_237 : decode cX11_add 237 = .ok (.iaload, 1) := by decide +kernel
theorem dX11_add_238 : decode cX11_add 238 = .ok (.iconst 1, 1) := by decide +kernel
theorem dX11_add_239 : decode cX11_add 239 = .ok (.isub, 1) := by decide +kernel
theorem dX11_add_240 : decode cX11_add 240 = .ok (.ireturn, 1) := by decide +kernel
theorem dX11_ask_0 : decode cX11_ask 0 = .ok (.aload_n 0, 1) := by decide +kernel
theorem dX11_ask_1 : decode cX11_ask 1 = .ok (.iconst 0, 1) := by decide +kernel
theorem dX11_ask_2 : decode cX11_ask 2 = .ok (.putfield 131, 3) := by decide +kernel
theorem dX11_ask_5 : decode cX11_ask 5 = .ok (.iload_n 1, 1) := by decide +kernel
theorem dX11_ask_6 : decode cX11_ask 6 = .ok (.i2l, 1) := by decide +kernel
theorem dX11_ask_7 : decode cX11_ask 7 = .ok (.lconst 0, 1) := by decide +kernel
theorem dX11_ask_8 : decode cX11_ask 8 = .ok (.ldc2_w 221, 3) := by decide +kernel
theorem dX11_ask_11 : decode cX11_ask 11 = .ok (.invokestatic 138, 3) := by decide +kernel
theorem dX11_ask_14 : decode cX11_ask 14 = .ok (.ifCond .eq 16, 3) := by decide +kernel
theorem dX11_ask_17 : decode cX11_ask 17 = .ok (.aload_n 0, 1) := by decide +kernel
theorem dX11_ask_18 : decode cX11_ask 18 = .ok (.bipush 10, 2) := by decide +kernel
theorem dX11_ask_20 : decode cX11_ask 20 = .ok (.iload_n 1, 1) := by decide +kernel
theorem dX11_ask_21 : decode cX11_ask 21 = .ok (.iadd, 1) := by decide +kernel
theorem dX11_ask_22 : decode cX11_ask 22 = .ok (.iload_n 2, 1) := by decide +kernel
theorem dX11_ask_23 : decode cX11_ask 23 = .ok (.iload_n 3, 1) := by decide +kernel
theorem dX11_ask_24 : decode cX11_ask 24 = .ok (.invokevirtual 223, 3) := by decide +kernel
theorem dX11_ask_27 : decode cX11_ask 27 = .ok (.goto 5, 3) := by decide +kernel
theorem dX11_ask_30 : decode cX11_ask 30 = .ok (.bipush (-3), 2) := by decide +kernel
theorem dX11_ask_32 : decode cX11_ask 32 = .ok (.ireturn, 1) := by decide +kernel
theorem dX11_offer_0 : decode cX11_offer 0 = .ok (.aload_n 0, 1) := by decide +kernel
theorem dX11_offer_1 : decode cX11_offer 1 = .ok (.iconst 0, 1) := by decide +kernel
theorem dX11_offer_2 : decode cX11_offer 2 = .ok (.putfield 131, 3) := by decide +kernel
theorem dX11_offer_5 : decode cX11_offer 5 = .ok (.iload_n 1, 1) := by decide +kernel
theorem dX11_offer_6 : decode cX11_offer 6 = .ok (.i2l, 1) := by decide +kernel
theorem dX11_offer_7 : decode cX11_offer 7 = .ok (.lconst 0, 1) := by decide +kernel
theorem dX11_offer_8 : decode cX11_offer 8 = .ok (.ldc2_w 221, 3) := by decide +kernel
theorem dX11_offer_11 : decode cX11_offer 11 = .ok (.invokestatic 138, 3) := by decide +kernel
theorem dX11_offer_14 : decode cX11_offer 14 = .ok (.ifCond .eq 13, 3) := by decide +kernel
theorem dX11_offer_17 : decode cX11_offer 17 = .ok (.aload_n 0, 1) := by decide +kernel
theorem dX11_offer_18 : decode cX11_offer 18 = .ok (.iload_n 1, 1) := by decide +kernel
theorem dX11_offer_19 : decode cX11_offer 19 = .ok (.iload_n 2, 1) := by decide +kernel
theorem dX11_offer_20 : decode cX11_offer 20 = .ok (.iload_n 3, 1) := by decide +kernel
theorem dX11_offer_21 : decode cX11_offer 21 = .ok (.invokevirtual 223, 3) := by decide +kernel
theorem dX11_offer_24 : decode cX11_offer 24 = .ok (.goto 5, 3) := by decide +kernel
theorem dX11_offer_27 : decode cX11_offer 27 = .ok (.bipush (-3), 2) := by decide +kernel
theorem dX11_offer_29 : decode cX11_offer 29 = .ok (.ireturn, 1) := by decide +kernel
theorem dX11_isMember_0 : decode cX11_isMember 0 = .ok (.iload_n 2, 1) := by decide +kernel
theorem dX11_isMember_1 : decode cX11_isMember 1 = .ok (.i2l, 1) := by decide +kernel
theorem dX11_isMember_2 : decode cX11_isMember 2 = .ok (.lconst 0, 1) := by decide +kernel
theorem dX11_isMember_3 : decode cX11_isMember 3 = .ok (.aload_n 0, 1) := by decide +kernel
theorem dX11_isMember_4 : decode cX11_isMember 4 = .ok (.getfield 29, 3) := by decide +kernel
theorem dX11_isMember_7 : decode cX11_isMember 7 = .ok (.iload_n 1, 1) := by decide +kernel
theorem dX11_isMember_8 : decode cX11_isMember 8 = .ok (.iaload, 1) := by decide +kernel
theorem dX11_isMember_9 : decode cX11_isMember 9 = .ok (.iconst 1, 1) := by decide +kernel
theorem dX11_isMember_10 : decode cX11_isMember 10 = .ok (.isub, 1) := by decide +kernel
theorem dX11_isMember_11 : decode cX11_isMember 11 = .ok (.i2l, 1) := by decide +kernel
theorem dX11_isMember_12 : decode cX11_isMember 12 = .ok (.invokestatic 138, 3) := by decide +kernel
theorem dX11_isMember_15 : decode cX11_isMember 15 = .ok (.ireturn, 1) := by decide +kernel
theorem dX11_work_0 : decode cX11_work 0 = .ok (.aload_n 0, 1) := by decide +kernel
theorem dX11_work_1 : decode cX11_work 1 = .ok (.iconst 0, 1) := by decide +kernel
theorem dX11_work_2 : decode cX11_work 2 = .ok (.putfield 131, 3) := by decide +kernel
theorem dX11_work_5 : decode cX11_work 5 = .ok (.iload_n 1, 1) := by decide +kernel
theorem dX11_work_6 : decode cX11_work 6 = .ok (.i2l, 1) := by decide +kernel
theorem dX11_work_7 : decode cX11_work 7 = .ok (.lconst 0, 1) := by decide +kernel
theorem dX11_work_8 : decode cX11_work 8 = .ok (.ldc2_w 221, 3) := by decide +kernel
theorem dX11_work_11 : decode cX11_work 11 = .ok (.invokestatic 138, 3) := by decide +kernel
theorem dX11_work_14 : decode cX11_work 14 = .ok (.ifCond .eq 57, 3) := by decide +kernel
theorem dX11_work_17 : decode cX11_work 17 = .ok (.iload_n 3, 1) := by decide +kernel
theorem dX11_work_18 : decode cX11_work 18 = .ok (.i2l, 1) := by decide +kernel
theorem dX11_work_19 : decode cX11_work 19 = .ok (.lconst 0, 1) := by decide +kernel
theorem dX11_work_20 : decode cX11_work 20 = .ok (.ldc2_w 227, 3) := by decide +kernel
theorem dX11_work_23 : decode cX11_work 23 = .ok (.invokestatic 138, 3) := by decide +kernel
theorem dX11_work_26 : decode cX11_work 26 = .ok (.ifCond .eq 45, 3) := by decide +kernel
theorem dX11_work_29 : decode cX11_work 29 = .ok (.iload 4, 2) := by decide +kernel
theorem dX11_work_31 : decode cX11_work 31 = .ok (.i2l, 1) := by decide +kernel
theorem dX11_work_32 : decode cX11_work 32 = .ok (.iload_n 3, 1) := by decide +kernel
theorem dX11_work_33 : decode cX11_work 33 = .ok (.ifCond .ne 9, 3) := by decide +kernel
theorem dX11_work_36 : decode cX11_work 36 = .ok (.ldc2_w 229, 3) := by decide +kernel
theorem dX11_work_39 : decode cX11_work 39 = .ok (.goto 4, 3) := by decide +kernel
theorem dX11_work_42 : decode cX11_work 42 = .ok (.lconst 0, 1) := by decide +kernel
theorem dX11_work_43 : decode cX11_work 43 = .ok (.ldc2_w 227, 3) := by decide +kernel
theorem dX11_work_46 : decode cX11_work 46 = .ok (.invokestatic 138, 3) := by decide +kernel
theorem dX11_work_49 : decode cX11_work 49 = .ok (.ifCond .eq 22, 3) := by decide +kernel
theorem dX11_work_52 : decode cX11_work 52 = .ok (.iload_n 3, 1) := by decide +kernel
theorem dX11_work_53 : decode cX11_work 53 = .ok (.ifCond .ne 21, 3) := by decide +kernel
theorem dX11_work_56 : decode cX11_work 56 = .ok (.iload 5, 2) := by decide +kernel
theorem dX11_work_58 : decode cX11_work 58 = .ok (.i2l, 1) := by decide +kernel
theorem dX11_work_59 : decode cX11_work 59 = .ok (.ldc2_w 231, 3) := by decide +kernel
theorem dX11_work_62 : decode cX11_work 62 = .ok (.ldc2_w 233, 3) := by decide +kernel
theorem dX11_work_65 : decode cX11_work 65 = .ok (.invokestatic 138, 3) := by decide +kernel
theorem dX11_work_68 : decode cX11_work 68 = .ok (.ifCond .ne 6, 3) := by decide +kernel
theorem dX11_work_71 : decode cX11_work 71 = .ok (.bipush (-3), 2) := by decide +kernel
theorem dX11_work_73 : decode cX11_work 73 = .ok (.ireturn, 1) := by decide +kernel
theorem dX11_work_74 : decode cX11_work 74 = .ok (.aload_n 0, 1) := by decide +kernel
theorem dX11_work_75 : decode cX11_work 75 = .ok (.iload_n 1, 1) := by decide +kernel
theorem dX11_work_76 : decode cX11_work 76 = .ok (.iload_n 2, 1) := by decide +kernel
theorem dX11_work_77 : decode cX11_work 77 = .ok (.invokevirtual 235, 3) := by decide +kernel
theorem dX11_work_80 : decode cX11_work 80 = .ok (.ifCond .ne 6, 3) := by decide +kernel
theorem dX11_work_83 : decode cX11_work 83 = .ok (.bipush (-2), 2) := by decide +kernel
theorem dX11_work_85 : decode cX11_work 85 = .ok (.ireturn, 1) := by decide +kernel
theorem dX11_work_86 : decode cX11_work 86 = .ok (.bipush 6, 2) := by decide +kernel
theorem dX11_work_88 : decode cX11_work 88 = .ok (.iload_n 1, 1) := by decide +kernel
theorem dX11_work_89 : decode cX11_work 89 = .ok (.imul, 1) := by decide +kernel
theorem dX11_work_90 : decode cX11_work 90 = .ok (.iload_n 2, 1) := by decide +kernel
theorem dX11_work_91 : decode cX11_work 91 = .ok (.iadd, 1) := by decide +kernel
theorem dX11_work_92 : decode cX11_work 92 = .ok (.istore 6, 2) := by decide +kernel
theorem dX11_work_94 : decode cX11_work 94 = .ok (.aload_n 0, 1) := by decide +kernel
theorem dX11_work_95 : decode cX11_work 95 = .ok (.getfield 44, 3) := by decide +kernel
theorem dX11_work_98 : decode cX11_work 98 = .ok (.iload 6, 2) := by decide +kernel
theorem dX11_work_100 : decode cX11_work 100 = .ok (.iload_n 3, 1) := by decide +kernel
theorem dX11_work_101 : decode cX11_work 101 = .ok (.iastore, 1) := by decide +kernel
theorem dX11_work_102 : decode cX11_work 102 = .ok (.aload_n 0, 1) := by decide +kernel
theorem dX11_work_103 : decode cX11_work 103 = .ok (.getfield 47, 3) := by decide +kernel
theorem dX11_work_106 : decode cX11_work 106 = .ok (.iload 6, 2) := by decide +kernel
theorem dX11_work_108 : decode cX11_work 108 = .ok (.iload 4, 2) := by decide +kernel
theorem dX11_work_110 : decode cX11_work 110 = .ok (.iastore, 1) := by decide +kernel
theorem dX11_work_111 : decode cX11_work 111 = .ok (.aload_n 0, 1) := by decide +kernel
theorem dX11_work_112 : decode cX11_work 112 = .ok (.getfield 50, 3) := by decide +kernel
theorem dX11_work_115 : decode cX11_work 115 = .ok (.iload 6, 2) := by decide +kernel
theorem dX11_work_117 : decode cX11_work 117 = .ok (.iload_n 3, 1) := by decide +kernel
theorem dX11_work_118 : decode cX11_work 118 = .ok (.ifCond .ne 8, 3) := by decide +kernel
theorem dX11_work_121 : decode cX11_work 121 = .ok (.iload 5, 2) := by decide +kernel
theorem dX11_work_123 : decode cX11_work 123 = .ok (.goto 4, 3) := by decide +kernel
theorem dX11_work_126 : decode cX11_work 126 = .ok (.iconst 0, 1) := by decide +kernel
theorem dX11_work_127 : decode cX11_work 127 = .ok (.iastore, 1) := by decide +kernel
theorem dX11_work_128 : decode cX11_work 128 = .ok (.iconst 0, 1) := by decide +kernel
theorem dX11_work_129 : decode cX11_work 129 = .ok (.ireturn, 1) := by decide +kernel
theorem dX11_times_0 : decode cX11_times 0 = .ok (.aload_n 0, 1) := by decide +kernel
theorem dX11_times_1 : decode cX11_times 1 = .ok (.iconst 0, 1) := by decide +kernel
theorem dX11_times_2 : decode cX11_times 2 = .ok (.putfield 131, 3) := by decide +kernel
theorem dX11_times_5 : decode cX11_times 5 = .ok (.iload_n 1, 1) := by decide +kernel
theorem dX11_times_6 : decode cX11_times 6 = .ok (.i2l, 1) := by decide +kernel
theorem dX11_times_7 : decode cX11_times 7 = .ok (.lconst 0, 1) := by decide +kernel
theorem dX11_times_8 : decode cX11_times 8 = .ok (.ldc2_w 221, 3) := by decide +kernel
theorem dX11_times_11 : decode cX11_times 11 = .ok (.invokestatic 138, 3) := by decide +kernel
theorem dX11_times_14 : decode cX11_times 14 = .ok (.ifCond .ne 6, 3) := by decide +kernel
theorem dX11_times_17 : decode cX11_times 17 = .ok (.bipush (-3), 2) := by decide +kernel
theorem dX11_times_19 : decode cX11_times 19 = .ok (.ireturn, 1) := by decide +kernel
theorem dX11_times_20 : decode cX11_times 20 = .ok (.aload_n 0, 1) := by decide +kernel
theorem dX11_times_21 : decode cX11_times 21 = .ok (.iload_n 1, 1) := by decide +kernel
theorem dX11_times_22 : decode cX11_times 22 = .ok (.iload_n 2, 1) := by decide +kernel
theorem dX11_times_23 : decode cX11_times 23 = .ok (.invokevirtual 235, 3) := by decide +kernel
theorem dX11_times_26 : decode cX11_times 26 = .ok (.ifCond .ne 6, 3) := by decide +kernel
theorem dX11_times_29 : decode cX11_times 29 = .ok (.bipush (-2), 2) := by decide +kernel
theorem dX11_times_31 : decode cX11_times 31 = .ok (.ireturn, 1) := by decide +kernel
theorem dX11_times_32 : decode cX11_times 32 = .ok (.bipush 6, 2) := by decide +kernel
theorem dX11_times_34 : decode cX11_times 34 = .ok (.iload_n 1, 1) := by decide +kernel
theorem dX11_times_35 : decode cX11_times 35 = .ok (.imul, 1) := by decide +kernel
theorem dX11_times_36 : decode cX11_times 36 = .ok (.iload_n 2, 1) := by decide +kernel
theorem dX11_times_37 : decode cX11_times 37 = .ok (.iadd, 1) := by decide +kernel
theorem dX11_times_38 : decode cX11_times 38 = .ok (.istore 5, 2) := by decide +kernel
theorem dX11_times_40 : decode cX11_times 40 = .ok (.iload_n 3, 1) := by decide +kernel
theorem dX11_times_41 : decode cX11_times 41 = .ok (.i2l, 1) := by decide +kernel
theorem dX11_times_42 : decode cX11_times 42 = .ok (.lconst 0, 1) := by decide +kernel
theorem dX11_times_43 : decode cX11_times 43 = .ok (.aload_n 0, 1) := by decide +kernel
theorem dX11_times_44 : decode cX11_times 44 = .ok (.getfield 35, 3) := by decide +kernel
theorem dX11_times_47 : decode cX11_times 47 = .ok (.iload 5, 2) := by decide +kernel
theorem dX11_times_49 : decode cX11_times 49 = .ok (.iaload, 1) := by decide +kernel
theorem dX11_times_50 : decode cX11_times 50 = .ok (.iconst 1, 1) := by decide +kernel
theorem dX11_times_51 : decode cX11_times 51 = .ok (.isub, 1) := by decide +kernel
theorem dX11_times_52 : decode cX11_times 52 = .ok (.i2l, 1) := by decide +kernel
theorem dX11_times_53 : decode cX11_times 53 = .ok (.invokestatic 138, 3) := by decide +kernel
theorem dX11_times_56 : decode cX11_times 56 = .ok (.ifCond .eq 18, 3) := by decide +kernel
theorem dX11_times_59 : decode cX11_times 59 = .ok (.iload 4, 2) := by decide +kernel
theorem dX11_times_61 : decode cX11_times 61 = .ok (.i2l, 1) := by decide +kernel
theorem dX11_times_62 : decode cX11_times 62 = .ok (.ldc2_w 231, 3) := by decide +kernel
theorem dX11_times_65 : decode cX11_times 65 = .ok (.ldc2_w 233, 3) := by decide +kernel
theorem dX11_times_68 : decode cX11_times 68 = .ok (.invokestatic 138, 3) := by decide +kernel
theorem dX11_times_71 : decode cX11_times 71 = .ok (.ifCond .ne 6, 3) := by decide +kernel
theorem dX11_times_74 : decode cX11_times 74 = .ok (.bipush (-3), 2) := by decide +kernel
theorem dX11_times_76 : decode cX11_times 76 = .ok (.ireturn, 1) := by decide +kernel
theorem dX11_times_77 : decode cX11_times 77 = .ok (.aload_n 0, 1) := by decide +kernel
theorem dX11_times_78 : decode cX11_times 78 = .ok (.getfield 53, 3) := by decide +kernel
theorem dX11_times_81 : decode cX11_times 81 = .ok (.iconst 4, 1) := by decide +kernel
theorem dX11_times_82 : decode cX11_times 82 = .ok (.iload 5, 2) := by decide +kernel
theorem dX11_times_84 : decode cX11_times 84 = .ok (.imul, 1) := by decide +kernel
theorem dX11_times_85 : decode cX11_times 85 = .ok (.iload_n 3, 1) := by decide +kernel
theorem dX11_times_86 : decode cX11_times 86 = .ok (.iadd, 1) := by decide +kernel
theorem dX11_times_87 : decode cX11_times 87 = .ok (.iaload, 1) := by decide +kernel
theorem dX11_times_88 : decode cX11_times 88 = .ok (.istore 6, 2) := by decide +kernel
theorem dX11_times_90 : decode cX11_times 90 = .ok (.aload_n 0, 1) := by decide +kernel
theorem dX11_times_91 : decode cX11_times 91 = .ok (.getfield 53, 3) := by decide +kernel
theorem dX11_times_94 : decode cX11_times 94 = .ok (.iconst 4, 1) := by decide +kernel
theorem dX11_times_95 : decode cX11_times 95 = .ok (.iload 5, 2) := by decide +kernel
theorem dX11_times_97 : decode cX11_times 97 = .ok (.imul, 1) := by decide +kernel
theorem dX11_times_98 : decode cX11_times 98 = .ok (.iload_n 3, 1) := by decide +kernel
theorem dX11_times_99 : decode cX11_times 99 = .ok (.iadd, 1) := by decide +kernel
theorem dX11_times_100 : decode cX11_times 100 = .ok (.iload 4, 2) := by decide +kernel
theorem dX11_times_102 : decode cX11_times 102 = .ok (.iastore, 1) := by decide +kernel
theorem dX11_times_103 : decode cX11_times 103 = .ok (.iload 6, 2) := by decide +kernel
theorem dX11_times_105 : decode cX11_times 105 = .ok (.ireturn, 1) := by decide +kernel
theorem dX11_strip_0 : decode cX11_strip 0 = .ok (.aload_n 0, 1) := by decide +kernel
theorem dX11_strip_1 : decode cX11_strip 1 = .ok (.iconst 0, 1) := by decide +kernel
theorem dX11_strip_2 : decode cX11_strip 2 = .ok (.putfield 131, 3) := by decide +kernel
theorem dX11_strip_5 : decode cX11_strip 5 = .ok (.iload_n 2, 1) := by decide +kernel
theorem dX11_strip_6 : decode cX11_strip 6 = .ok (.i2l, 1) := by decide +kernel
theorem dX11_strip_7 : decode cX11_strip 7 = .ok (.lconst 0, 1) := by decide +kernel
theorem dX11_strip_8 : decode cX11_strip 8 = .ok (.ldc2_w 221, 3) := by decide +kernel
theorem dX11_strip_11 : decode cX11_strip 11 = .ok (.invokestatic 138, 3) := by decide +kernel
theorem dX11_strip_14 : decode cX11_strip 14 = .ok (.ifCond .ne 6, 3) := by decide +kernel
theorem dX11_strip_17 : decode cX11_strip 17 = .ok (.bipush (-3), 2) := by decide +kernel
theorem dX11_strip_19 : decode cX11_strip 19 = .ok (.ireturn, 1) := by decide +kernel
theorem dX11_strip_20 : decode cX11_strip 20 = .ok (.iload_n 1, 1) := by decide +kernel
theorem dX11_strip_21 : decode cX11_strip 21 = .ok (.ifCond .eq 10, 3) := by decide +kernel
theorem dX11_strip_24 : decode cX11_strip 24 = .ok (.bipush 10, 2) := by decide +kernel
theorem dX11_strip_26 : decode cX11_strip 26 = .ok (.iload_n 2, 1) := by decide +kernel
theorem dX11_strip_27 : decode cX11_strip 27 = .ok (.iadd, 1) := by decide +kernel
theorem dX11_strip_28 : decode cX11_strip 28 = .ok (.goto 4, 3) := by decide +kernel
theorem dX11_strip_31 : decode cX11_strip 31 = .ok (.iload_n 2, 1) := by decide +kernel
theorem dX11_strip_32 : decode cX11_strip 32 = .ok (.istore_n 3, 1) := by decide +kernel
theorem dX11_strip_33 : decode cX11_strip 33 = .ok (.aload_n 0, 1) := by decide +kernel
theorem dX11_strip_34 : decode cX11_strip 34 = .ok (.getfield 29, 3) := by decide +kernel
theorem dX11_strip_37 : decode cX11_strip 37 = .ok (.iload_n 3, 1) := by decide +kernel
theorem dX11_strip_38 : decode cX11_strip 38 = .ok (.iaload, 1) := by decide +kernel
theorem dX11_strip_39 : decode cX11_strip 39 = .ok (.istore 4, 2) := by decide +kernel
theorem dX11_strip_41 : decode cX11_strip 41 = .ok (.aload_n 0, 1) := by decide +kernel
theorem dX11_strip_42 : decode cX11_strip 42 = .ok (.getfield 29, 3) := by decide +kernel
theorem dX11_strip_45 : decode cX11_strip 45 = .ok (.iload_n 3, 1) := by decide +kernel
theorem dX11_strip_46 : decode cX11_strip 46 = .ok (.iconst 0, 1) := by decide +kernel
theorem dX11_strip_47 : decode cX11_strip 47 = .ok (.iastore, 1) := by decide +kernel
theorem dX11_strip_48 : decode cX11_strip 48 = .ok (.iload 4, 2) := by decide +kernel
theorem dX11_strip_50 : decode cX11_strip 50 = .ok (.ireturn, 1) := by decide +kernel
theorem dX11_alias_0 : decode cX11_alias 0 = .ok (.aload_n 0, 1) := by decide +kernel
theorem dX11_alias_1 : decode cX11_alias 1 = .ok (.iconst 0, 1) := by decide +kernel
theorem dX11_alias_2 : decode cX11_alias 2 = .ok (.putfield 131, 3) := by decide +kernel
theorem dX11_alias_5 : decode cX11_alias 5 = .ok (.iload_n 1, 1) := by decide +kernel
theorem dX11_alias_6 : decode cX11_alias 6 = .ok (.i2l, 1) := by decide +kernel
theorem dX11_alias_7 : decode cX11_alias 7 = .ok (.lconst 0, 1) := by decide +kernel
theorem dX11_alias_8 : decode cX11_alias 8 = .ok (.ldc2_w 219, 3) := by decide +kernel
theorem dX11_alias_11 : decode cX11_alias 11 = .ok (.invokestatic 138, 3) := by decide +kernel
theorem dX11_alias_14 : decode cX11_alias 14 = .ok (.ifCond .eq 20, 3) := by decide +kernel
theorem dX11_alias_17 : decode cX11_alias 17 = .ok (.iload_n 2, 1) := by decide +kernel
theorem dX11_alias_18 : decode cX11_alias 18 = .ok (.i2l, 1) := by decide +kernel
theorem dX11_alias_19 : decode cX11_alias 19 = .ok (.lconst 0, 1) := by decide +kernel
theorem dX11_alias_20 : decode cX11_alias 20 = .ok (.ldc2_w 219, 3) := by decide +kernel
theorem dX11_alias_23 : decode cX11_alias 23 = .ok (.invokestatic 138, 3) := by decide +kernel
theorem dX11_alias_26 : decode cX11_alias 26 = .ok (.ifCond .eq 8, 3) := by decide +kernel
theorem dX11_alias_29 : decode cX11_alias 29 = .ok (.iload_n 1, 1) := by decide +kernel
theorem dX11_alias_30 : decode cX11_alias 30 = .ok (.iload_n 2, 1) := by decide +kernel
theorem dX11_alias_31 : decode cX11_alias 31 = .ok (.if_icmp .ne 5, 3) := by decide +kernel
theorem dX11_alias_34 : decode cX11_alias 34 = .ok (.iconst 0, 1) := by decide +kernel
theorem dX11_alias_35 : decode cX11_alias 35 = .ok (.ireturn, 1) := by decide +kernel
theorem dX11_alias_36 : decode cX11_alias 36 = .ok (.bipush 100, 2) := by decide +kernel
theorem dX11_alias_38 : decode cX11_alias 38 = .ok (.iload_n 1, 1) := by decide +kernel
theorem dX11_alias_39 : decode cX11_alias 39 = .ok (.imul, 1) := by decide +kernel
theorem dX11_alias_40 : decode cX11_alias 40 = .ok (.iload_n 2, 1) := by decide +kernel
theorem dX11_alias_41 : decode cX11_alias 41 = .ok (.iadd, 1) := by decide +kernel
theorem dX11_alias_42 : decode cX11_alias 42 = .ok (.istore 4, 2) := by decide +kernel
theorem dX11_alias_44 : decode cX11_alias 44 = .ok (.aload_n 0, 1) := by decide +kernel
theorem dX11_alias_45 : decode cX11_alias 45 = .ok (.getfield 56, 3) := by decide +kernel
theorem dX11_alias_48 : decode cX11_alias 48 = .ok (.iload 4, 2) := by decide +kernel
theorem dX11_alias_50 : decode cX11_alias 50 = .ok (.baload, 1) := by decide +kernel
theorem dX11_alias_51 : decode cX11_alias 51 = .ok (.iload_n 3, 1) := by decide +kernel
theorem dX11_alias_52 : decode cX11_alias 52 = .ok (.if_icmp .eq 16, 3) := by decide +kernel
theorem dX11_alias_55 : decode cX11_alias 55 = .ok (.iload_n 3, 1) := by decide +kernel
theorem dX11_alias_56 : decode cX11_alias 56 = .ok (.ifCond .eq 14, 3) := by decide +kernel
theorem dX11_alias_59 : decode cX11_alias 59 = .ok (.aload_n 0, 1) := by decide +kernel
theorem dX11_alias_60 : decode cX11_alias 60 = .ok (.getfield 239, 3) := by decide +kernel
theorem dX11_alias_63 : decode cX11_alias 63 = .ok (.bipush 30, 2) := by decide +kernel
theorem dX11_alias_65 : decode cX11_alias 65 = .ok (.if_icmp .ne 5, 3) := by decide +kernel
theorem dX11_alias_68 : decode cX11_alias 68 = .ok (.iconst 0, 1) := by decide +kernel
theorem dX11_alias_69 : decode cX11_alias 69 = .ok (.ireturn, 1) := by decide +kernel
theorem dX11_alias_70 : decode cX11_alias 70 = .ok (.aload_n 0, 1) := by decide +kernel
theorem dX11_alias_71 : decode cX11_alias 71 = .ok (.getfield 56, 3) := by decide +kernel
theorem dX11_alias_74 : decode cX11_alias 74 = .ok (.iload 4, 2) := by decide +kernel
theorem dX11_alias_76 : decode cX11_alias 76 = .ok (.iload_n 3, 1) := by decide +kernel
theorem dX11_alias_77 : decode cX11_alias 77 = .ok (.bastore, 1) := by decide +kernel
theorem dX11_alias_78 : decode cX11_alias 78 = .ok (.aload_n 0, 1) := by decide +kernel
theorem dX11_alias_79 : decode cX11_alias 79 = .ok (.dup, 1) := by decide +kernel
theorem dX11_alias_80 : decode cX11_alias 80 = .ok (.getfield 239, 3) := by decide +kernel
theorem dX11_alias_83 : decode cX11_alias 83 = .ok (.iload_n 3, 1) := by decide +kernel
theorem dX11_alias_84 : decode cX11_alias 84 = .ok (.ifCond .eq 7, 3) := by decide +kernel
theorem dX11_alias_87 : decode cX11_alias 87 = .ok (.iconst 1, 1) := by decide +kernel
theorem dX11_alias_88 : decode cX11_alias 88 = .ok (.goto 4, 3) := by decide +kernel
theorem dX11_alias_91 : decode cX11_alias 91 = .ok (.iconst (-1), 1) := by decide +kernel
theorem dX11_alias_92 : decode cX11_alias 92 = .ok (.iadd, 1) := by decide +kernel
theorem dX11_alias_93 : decode cX11_alias 93 = .ok (.putfield 239, 3) := by decide +kernel
theorem dX11_alias_96 : decode cX11_alias 96 = .ok (.iconst 1, 1) := by decide +kernel
theorem dX11_alias_97 : decode cX11_alias 97 = .ok (.ireturn, 1) := by decide +kernel
theorem dX11_constant_0 : decode cX11_constant 0 = .ok (.aload_n 0, 1) := by decide +kernel
theorem dX11_constant_1 : decode cX11_constant 1 = .ok (.iconst 0, 1) := by decide +kernel
theorem dX11_constant_2 : decode cX11_constant 2 = .ok (.putfield 131, 3) := by decide +kernel
theorem dX11_constant_5 : decode cX11_constant 5 = .ok (.iload_n 1, 1) := by decide +kernel
theorem dX11_constant_6 : decode cX11_constant 6 = .ok (.i2l, 1) := by decide +kernel
theorem dX11_constant_7 : decode cX11_constant 7 = .ok (.lconst 0, 1) := by decide +kernel
theorem dX11_constant_8 : decode cX11_constant 8 = .ok (.ldc2_w 150, 3) := by decide +kernel
theorem dX11_constant_11 : decode cX11_constant 11 = .ok (.invokestatic 138, 3) := by decide +kernel
theorem dX11_constant_14 : decode cX11_constant 14 = .ok (.ifCond .eq 15, 3) := by decide +kernel
theorem dX11_constant_17 : decode cX11_constant 17 = .ok (.iload_n 2, 1) := by decide +kernel
theorem dX11_constant_18 : decode cX11_constant 18 = .ok (.ifCond .eq 14, 3) := by decide +kernel
theorem dX11_constant_21 : decode cX11_constant 21 = .ok (.iload_n 1, 1) := by decide +kernel
theorem dX11_constant_22 : decode cX11_constant 22 = .ok (.lload_n 3, 1) := by decide +kernel
theorem dX11_constant_23 : decode cX11_constant 23 = .ok (.invokestatic 176, 3) := by decide +kernel
theorem dX11_constant_26 : decode cX11_constant 26 = .ok (.ifCond .ne 6, 3) := by decide +kernel
theorem dX11_constant_29 : decode cX11_constant 29 = .ok (.bipush (-3), 2) := by decide +kernel
theorem dX11_constant_31 : decode cX11_constant 31 = .ok (.ireturn, 1) := by decide +kernel
theorem dX11_constant_32 : decode cX11_constant 32 = .ok (.aload_n 0, 1) := by decide +kernel
theorem dX11_constant_33 : decode cX11_constant 33 = .ok (.getfield 59, 3) := by decide +kernel
theorem dX11_constant_36 : decode cX11_constant 36 = .ok (.iload_n 1, 1) := by decide +kernel
theorem dX11_constant_37 : decode cX11_constant 37 = .ok (.baload, 1) := by decide +kernel
theorem dX11_constant_38 : decode cX11_constant 38 = .ok (.ifCond .eq 7, 3) := by decide +kernel
theorem dX11_constant_41 : decode cX11_constant 41 = .ok (.iconst 1, 1) := by decide +kernel
theorem dX11_constant_42 : decode cX11_constant 42 = .ok (.goto 4, 3) := by decide +kernel
theorem dX11_constant_45 : decode cX11_constant 45 = .ok (.iconst 0, 1) := by decide +kernel
theorem dX11_constant_46 : decode cX11_constant 46 = .ok (.istore 5, 2) := by decide +kernel
theorem dX11_constant_48 : decode cX11_constant 48 = .ok (.aload_n 0, 1) := by decide +kernel
theorem dX11_constant_49 : decode cX11_constant 49 = .ok (.getfield 59, 3) := by decide +kernel
theorem dX11_constant_52 : decode cX11_constant 52 = .ok (.iload_n 1, 1) := by decide +kernel
theorem dX11_constant_53 : decode cX11_constant 53 = .ok (.iload_n 2, 1) := by decide +kernel
theorem dX11_constant_54 : decode cX11_constant 54 = .ok (.bastore, 1) := by decide +kernel
theorem dX11_constant_55 : decode cX11_constant 55 = .ok (.aload_n 0, 1) := by decide +kernel
theorem dX11_constant_56 : decode cX11_constant 56 = .ok (.getfield 62, 3) := by decide +kernel
theorem dX11_constant_59 : decode cX11_constant 59 = .ok (.iload_n 1, 1) := by decide +kernel
theorem dX11_constant_60 : decode cX11_constant 60 = .ok (.lload_n 3, 1) := by decide +kernel
theorem dX11_constant_61 : decode cX11_constant 61 = .ok (.lastore, 1) := by decide +kernel
theorem dX11_constant_62 : decode cX11_constant 62 = .ok (.iload 5, 2) := by decide +kernel
theorem dX11_constant_64 : decode cX11_constant 64 = .ok (.ireturn, 1) := by decide +kernel
theorem dX11_costOf_0 : decode cX11_costOf 0 = .ok (.aload_n 0, 1) := by decide +kernel
theorem dX11_costOf_1 : decode cX11_costOf 1 = .ok (.getfield 75, 3) := by decide +kernel
theorem dX11_costOf_4 : decode cX11_costOf 4 = .ok (.bipush 7, 2) := by decide +kernel
theorem dX11_costOf_6 : decode cX11_costOf 6 = .ok (.aload_n 0, 1) := by decide +kernel
theorem dX11_costOf_7 : decode cX11_costOf 7 = .ok (.getfield 41, 3) := by decide +kernel
theorem dX11_costOf_10 : decode cX11_costOf 10 = .ok (.iload_n 2, 1) := by decide +kernel
theorem dX11_costOf_11 : decode cX11_costOf 11 = .ok (.iaload, 1) := by decide +kernel
theorem dX11_costOf_12 : decode cX11_costOf 12 = .ok (.imul, 1) := by decide +kernel
theorem dX11_costOf_13 : decode cX11_costOf 13 = .ok (.aload_n 0, 1) := by decide +kernel
theorem dX11_costOf_14 : decode cX11_costOf 14 = .ok (.getfield 41, 3) := by decide +kernel
theorem dX11_costOf_17 : decode cX11_costOf 17 = .ok (.iload_n 1, 1) := by decide +kernel
theorem dX11_costOf_18 : decode cX11_costOf 18 = .ok (.iaload, 1) := by decide +kernel
theorem dX11_costOf_19 : decode cX11_costOf 19 = .ok (.iadd, 1) := by decide +kernel
theorem dX11_costOf_20 : decode cX11_costOf 20 = .ok (.iaload, 1) := by decide +kernel
theorem dX11_costOf_21 : decode cX11_costOf 21 = .ok (.istore_n 3, 1) := by decide +kernel
theorem dX11_costOf_22 : decode cX11_costOf 22 = .ok (.iconst 0, 1) := by decide +kernel
theorem dX11_costOf_23 : decode cX11_costOf 23 = .ok (.istore 4, 2) := by decide +kernel
theorem dX11_costOf_25 : decode cX11_costOf 25 = .ok (.iconst 0, 1) := by decide +kernel
theorem dX11_costOf_26 : decode cX11_costOf 26 = .ok (.istore 5, 2) := by decide +kernel
theorem dX11_costOf_28 : decode cX11_costOf 28 = .ok (.iload 5, 2) := by decide +kernel
theorem dX11_costOf_30 : decode cX11_costOf 30 = .ok (.aload_n 0, 1) := by decide +kernel
theorem dX11_costOf_31 : decode cX11_costOf 31 = .ok (.getfield 35, 3) := by decide +kernel
theorem dX11_costOf_34 : decode cX11_costOf 34 = .ok (.iload_n 2, 1) := by decide +kernel
theorem dX11_costOf_35 : decode cX11_costOf 35 = .ok (.iaload, 1) := by decide +kernel
theorem dX11_costOf_36 : decode cX11_costOf 36 = .ok (.if_icmp .ge 137, 3) := by decide +kernel
theorem dX11_costOf_39 : decode cX11_costOf 39 = .ok (.aload_n 0, 1) := by decide +kernel
theorem dX11_costOf_40 : decode cX11_costOf 40 = .ok (.getfield 90, 3) := by decide +kernel
theorem dX11_costOf_43 : decode cX11_costOf 43 = .ok (.iload 5, 2) := by decide +kernel
theorem dX11_costOf_45 : decode cX11_costOf 45 = .ok (.iaload, 1) := by decide +kernel
theorem dX11_costOf_46 : decode cX11_costOf 46 = .ok (.istore 6, 2) := by decide +kernel
theorem dX11_costOf_48 : decode cX11_costOf 48 = .ok (.aload_n 0, 1) := by decide +kernel
theorem dX11_costOf_49 : decode cX11_costOf 49 = .ok (.getfield 38, 3) := by decide +kernel
theorem dX11_costOf_52 : decode cX11_costOf 52 = .ok (.iconst 4, 1) := by decide +kernel
theorem dX11_costOf_53 : decode cX11_costOf 53 = .ok (.iload_n 2, 1) := by decide +kernel
theorem dX11_costOf_54 : decode cX11_costOf 54 = .ok (.imul, 1) := by decide +kernel
theorem dX11_costOf_55 : decode cX11_costOf 55 = .ok (.iload 5, 2) := by decide +kernel
theorem dX11_costOf_57 : decode cX11_costOf 57 = .ok (.iadd, 1) := by decide +kernel
theorem dX11_costOf_58 : decode cX11_costOf 58 = .ok (.iaload, 1) := by decide +kernel
theorem dX11_costOf_59 : decode cX11_costOf 59 = .ok (.istore 7, 2) := by decide +kernel
theorem dX11_costOf_61 : decode cX11_costOf 61 = .ok (.iload 6, 2) := by decide +kernel
theorem dX11_costOf_63 : decode cX11_costOf 63 = .ok (.iconst 4, 1) := by decide +kernel
theorem dX11_costOf_64 : decode cX11_costOf 64 = .ok (.if_icmp .ne 26, 3) := by decide +kernel
theorem dX11_costOf_67 : decode cX11_costOf 67 = .ok (.iload_n 3, 1) := by decide +kernel
theorem dX11_costOf_68 : decode cX11_costOf 68 = .ok (.aload_n 0, 1) := by decide +kernel
theorem dX11_costOf_69 : decode cX11_costOf 69 = .ok (.getfield 59, 3) := by decide +kernel
theorem dX11_costOf_72 : decode cX11_costOf 72 = .ok (.iload 7, 2) := by decide +kernel
theorem dX11_costOf_74 : decode cX11_costOf 74 = .ok (.baload, 1) := by decide +kernel
theorem dX11_costOf_75 : decode cX11_costOf 75 = .ok (.ifCond .eq 8, 3) := by decide +kernel
theorem dX11_costOf_78 : decode cX11_costOf 78 = .ok (.bipush 7, 2) := by decide +kernel
theorem dX11_costOf_80 : decode cX11_costOf 80 = .ok (.goto 5, 3) := by decide +kernel
theorem dX11_costOf_83 : decode cX11_costOf 83 = .ok (.ldc 180, 2) := by decide +kernel
theorem dX11_costOf_85 : decode cX11_costOf 85 = .ok (.iadd, 1) := by decide +kernel
theorem dX11_costOf_86 : decode cX11_costOf 86 = .ok (.istore_n 3, 1) := by decide +kernel
theorem dX11_costOf_87 : decode cX11_costOf 87 = .ok (.goto 80, 3) := by decide +kernel
theorem dX11_costOf_90 : decode cX11_costOf 90 = .ok (.iload 6, 2) := by decide +kernel
theorem dX11_costOf_92 : decode cX11_costOf 92 = .ok (.aload_n 0, 1) := by decide +kernel
theorem dX11_costOf_93 : decode cX11_costOf 93 = .ok (.getfield 35, 3) := by decide +kernel
theorem dX11_costOf_96 : decode cX11_costOf 96 = .ok (.iload_n 1, 1) := by decide +kernel
theorem dX11_costOf_97 : decode cX11_costOf 97 = .ok (.iaload, 1) := by decide +kernel
theorem dX11_costOf_98 : decode cX11_costOf 98 = .ok (.if_icmp .ge 14, 3) := by decide +kernel
theorem dX11_costOf_101 : decode cX11_costOf 101 = .ok (.iload 4, 2) := by decide +kernel
theorem dX11_costOf_103 : decode cX11_costOf 103 = .ok (.iload 6, 2) := by decide +kernel
theorem dX11_costOf_105 : decode cX11_costOf 105 = .ok (.ishr, 1) := by decide +kernel
theorem dX11_costOf_106 : decode cX11_costOf 106 = .ok (.iconst 1, 1) := by decide +kernel
theorem dX11_costOf_107 : decode cX11_costOf 107 = .ok (.iand, 1) := by decide +kernel
theorem dX11_costOf_108 : decode cX11_costOf 108 = .ok (.iconst 1, 1) := by decide +kernel
theorem dX11_costOf_109 : decode cX11_costOf 109 = .ok (.if_icmp .ne 11, 3) := by decide +kernel
theorem dX11_costOf_112 : decode cX11_costOf 112 = .ok (.iload_n 3, 1) := by decide +kernel
theorem dX11_costOf_113 : decode cX11_costOf 113 = .ok (.ldc 180, 2) := by decide +kernel
theorem dX11_costOf_115 : decode cX11_costOf 115 = .ok (.iadd, 1) := by decide +kernel
theorem dX11_costOf_116 : decode cX11_costOf 116 = .ok (.istore_n 3, 1) := by decide +kernel
theorem dX11_costOf_117 : decode cX11_costOf 117 = .ok (.goto 50, 3) := by decide +kernel
theorem dX11_costOf_120 : decode cX11_costOf 120 = .ok (.iload 4, 2) := by decide +kernel
theorem dX11_costOf_122 : decode cX11_costOf 122 = .ok (.iconst 1, 1) := by decide +kernel
theorem dX11_costOf_123 : decode cX11_costOf 123 = .ok (.iload 6, 2) := by decide +kernel
theorem dX11_costOf_125 : decode cX11_costOf 125 = .ok (.ishl, 1) := by decide +kernel
theorem dX11_costOf_126 : decode cX11_costOf 126 = .ok (.ior, 1) := by decide +kernel
theorem dX11_costOf_127 : decode cX11_costOf 127 = .ok (.istore 4, 2) := by decide +kernel
theorem dX11_costOf_129 : decode cX11_costOf 129 = .ok (.iload_n 3, 1) := by decide +kernel
theorem dX11_costOf_130 : decode cX11_costOf 130 = .ok (.aload_n 0, 1) := by decide +kernel
theorem dX11_costOf_131 : decode cX11_costOf 131 = .ok (.getfield 75, 3) := by decide +kernel
theorem dX11_costOf_134 : decode cX11_costOf 134 = .ok (.bipush 7, 2) := by decide +kernel
theorem dX11_costOf_136 : decode cX11_costOf 136 = .ok (.aload_n 0, 1) := by decide +kernel
theorem dX11_costOf_137 : decode cX11_costOf 137 = .ok (.getfield 38, 3) := by decide +kernel
theorem dX11_costOf_140 : decode cX11_costOf 140 = .ok (.iconst 4, 1) := by decide +kernel
theorem dX11_costOf_141 : decode cX11_costOf 141 = .ok (.iload_n 1, 1) := by decide +kernel
theorem dX11_costOf_142 : decode cX11_costOf 142 = .ok (.imul, 1) := by decide +kernel
theorem dX11_costOf_143 : decode cX11_costOf 143 = .ok (.iload 6, 2) := by decide +kernel
theorem dX11_costOf_145 : decode cX11_costOf 145 = .ok (.iadd, 1) := by decide +kernel
theorem dX11_costOf_146 : decode cX11_costOf 146 = .ok (.iaload, 1) := by decide +kernel
theorem dX11_costOf_147 : decode cX11_costOf 147 = .ok (.imul, 1) := by decide +kernel
theorem dX11_costOf_148 : decode cX11_costOf 148 = .ok (.iload 7, 2) := by decide +kernel
theorem dX11_costOf_150 : decode cX11_costOf 150 = .ok (.iadd, 1) := by decide +kernel
theorem dX11_costOf_151 : decode cX11_costOf 151 = .ok (.iaload, 1) := by decide +kernel
theorem dX11_costOf_152 : decode cX11_costOf 152 = .ok (.iload 5, 2) := by decide +kernel
theorem dX11_costOf_154 : decode cX11_costOf 154 = .ok (.iload 6, 2) := by decide +kernel
theorem dX11_costOf_156 : decode cX11_costOf 156 = .ok (.if_icmp .eq 7, 3) := by decide +kernel
theorem dX11_costOf_159 : decode cX11_costOf 159 = .ok (.iconst 1, 1) := by decide +kernel
theorem dX11_costOf_160 : decode cX11_costOf 160 = .ok (.goto 4, 3) := by decide +kernel
theorem dX11_costOf_163 : decode cX11_costOf 163 = .ok (.iconst 0, 1) := by decide +kernel
theorem dX11_costOf_164 : decode cX11_costOf 164 = .ok (.iadd, 1) := by decide +kernel
theorem dX11_costOf_165 : decode cX11_costOf 165 = .ok (.iadd, 1) := by decide +kernel
theorem dX11_costOf_166 : decode cX11_costOf 166 = .ok (.istore_n 3, 1) := by decide +kernel
theorem dX11_costOf_167 : decode cX11_costOf 167 = .ok (.iinc 5 1, 3) := by decide +kernel
theorem dX11_costOf_170 : decode cX11_costOf 170 = .ok (.goto (-142), 3) := by decide +kernel
theorem dX11_costOf_173 : decode cX11_costOf 173 = .ok (.iconst 0, 1) := by decide +kernel
theorem dX11_costOf_174 : decode cX11_costOf 174 = .ok (.istore 5, 2) := by decide +kernel
theorem dX11_costOf_176 : decode cX11_costOf 176 = .ok (.iload 5, 2) := by decide +kernel
theorem dX11_costOf_178 : decode cX11_costOf 178 = .ok (.aload_n 0, 1) := by decide +kernel
theorem dX11_costOf_179 : decode cX11_costOf 179 = .ok (.getfield 35, 3) := by decide +kernel
theorem dX11_costOf_182 : decode cX11_costOf 182 = .ok (.iload_n 1, 1) := by decide +kernel
theorem dX11_costOf_183 : decode cX11_costOf 183 = .ok (.iaload, 1) := by decide +kernel
theorem dX11_costOf_184 : decode cX11_costOf 184 = .ok (.if_icmp .ge 27, 3) := by decide +kernel
theorem dX11_costOf_187 : decode cX11_costOf 187 = .ok (.iload_n 3, 1) := by decide +kernel
theorem dX11_costOf_188 : decode cX11_costOf 188 = .ok (.iload 4, 2) := by decide +kernel
theorem dX11_costOf_190 : decode cX11_costOf 190 = .ok (.iload 5, 2) := by decide +kernel
theorem dX11_costOf_192 : decode cX11_costOf 192 = .ok (.ishr, 1) := by decide +kernel
theorem dX11_costOf_193 : decode cX11_costOf 193 = .ok (.iconst 1, 1) := by decide +kernel
theorem dX11_costOf_194 : decode cX11_costOf 194 = .ok (.iand, 1) := by decide +kernel
theorem dX11_costOf_195 : decode cX11_costOf 195 = .ok (.ifCond .ne 7, 3) := by decide +kernel
theorem dX11_costOf_198 : decode cX11_costOf 198 = .ok (.iconst 4, 1) := by decide +kernel
theorem dX11_costOf_199 : decode cX11_costOf 199 = .ok (.goto 4, 3) := by decide +kernel
theorem dX11_costOf_202 : decode cX11_costOf 202 = .ok (.iconst 0, 1) := by decide +kernel
theorem dX11_costOf_203 : decode cX11_costOf 203 = .ok (.iadd, 1) := by decide +kernel
theorem dX11_costOf_204 : decode cX11_costOf 204 = .ok (.istore_n 3, 1) := by decide +kernel
theorem dX11_costOf_205 : decode cX11_costOf 205 = .ok (.iinc 5 1, 3) := by decide +kernel
theorem dX11_costOf_208 : decode cX11_costOf 208 = .ok (.goto (-32), 3) := by decide +kernel
theorem dX11_costOf_211 : decode cX11_costOf 211 = .ok (.iload_n 3, 1) := by decide +kernel
theorem dX11_costOf_212 : decode cX11_costOf 212 = .ok (.ireturn, 1) := by decide +kernel
theorem dX11_nextPlaces_0 : decode cX11_nextPlaces 0 = .ok (.aload_n 0, 1) := by decide +kernel
theorem dX11_nextPlaces_1 : decode cX11_nextPlaces 1 = .ok (.getfield 35, 3) := by decide +kernel
theorem dX11_nextPlaces_4 : decode cX11_nextPlaces 4 = .ok (.iload_n 1, 1) := by decide +kernel
theorem dX11_nextPlaces_5 : decode cX11_nextPlaces 5 = .ok (.iaload, 1) := by decide +kernel
theorem dX11_nextPlaces_6 : decode cX11_nextPlaces 6 = .ok (.iconst 1, 1) := by decide +kernel
theorem dX11_nextPlaces_7 : decode cX11_nextPlaces 7 = .ok (.isub, 1) := by decide +kernel
theorem dX11_nextPlaces_8 : decode cX11_nextPlaces 8 = .ok (.istore_n 2, 1) := by decide +kernel
theorem dX11_nextPlaces_9 : decode cX11_nextPlaces 9 = .ok (.iload_n 2, 1) := by decide +kernel
theorem dX11_nextPlaces_10 : decode cX11_nextPlaces 10 = .ok (.ifCond .lt 26, 3) := by decide +kernel
theorem dX11_nextPlaces_13 : decode cX11_nextPlaces 13 = .ok (.aload_n 0, 1) := by decide +kernel
theorem dX11_nextPlaces_14 : decode cX11_nextPlaces 14 = .ok (.getfield 90, 3) := by decide +kernel
theorem dX11_nextPlaces_17 : decode cX11_nextPlaces 17 = .ok (.iload_n 2, 1) := by decide +kernel
theorem dX11_nextPlaces_18 : decode cX11_nextPlaces 18 = .ok (.iaload, 1) := by decide +kernel
theorem dX11_nextPlaces_19 : decode cX11_nextPlaces 19 = .ok (.iconst 4, 1) := by decide +kernel
theorem dX11_nextPlaces_20 : decode cX11_nextPlaces 20 = .ok (.if_icmp .ne 16, 3) := by decide +kernel
theorem dX11_nextPlaces_23 : decode cX11_nextPlaces 23 = .ok (.aload_n 0, 1) := by decide +kernel
theorem dX11_nextPlaces_24 : decode cX11_nextPlaces 24 = .ok (.getfield 90, 3) := by decide +kernel
theorem dX11_nextPlaces_27 : decode cX11_nextPlaces 27 = .ok (.iload_n 2, 1) := by decide +kernel
theorem dX11_nextPlaces_28 : decode cX11_nextPlaces 28 = .ok (.iconst 0, 1) := by decide +kernel
theorem dX11_nextPlaces_29 : decode cX11_nextPlaces 29 = .ok (.iastore, 1) := by decide +kernel
theorem dX11_nextPlaces_30 : decode cX11_nextPlaces 30 = .ok (.iinc 2 (-1), 3) := by decide +kernel
theorem dX11_nextPlaces_33 : decode cX11_nextPlaces 33 = .ok (.goto (-24), 3) := by decide +kernel
theorem dX11_nextPlaces_36 : decode cX11_nextPlaces 36 = .ok (.iload_n 2, 1) := by decide +kernel
theorem dX11_nextPlaces_37 : decode cX11_nextPlaces 37 = .ok (.ifCond .ge 5, 3) := by decide +kernel
theorem dX11_nextPlaces_40 : decode cX11_nextPlaces 40 = .ok (.iconst 0, 1) := by decide +kernel
theorem dX11_nextPlaces_41 : decode cX11_nextPlaces 41 = .ok (.ireturn, 1) := by decide +kernel
theorem dX11_nextPlaces_42 : decode cX11_nextPlaces 42 = .ok (.aload_n 0, 1) := by decide +kernel
theorem dX11_nextPlaces_43 : decode cX11_nextPlaces 43 = .ok (.getfield 90, 3) := by decide +kernel
theorem dX11_nextPlaces_46 : decode cX11_nextPlaces 46 = .ok (.iload_n 2, 1) := by decide +kernel
theorem dX11_nextPlaces_47 : decode cX11_nextPlaces 47 = .ok (.dup2, 1) := by decide +kernel
theorem dX11_nextPlaces_48 : decode cX11_nextPlaces 48 = .ok (.iaload, 1) := by decide +kernel
theorem dX11_nextPlaces_49 : decode cX11_nextPlaces 49 = .ok (.iconst 1, 1) := by decide +kernel
theorem dX11_nextPlaces_50 : decode cX11_nextPlaces 50 = .ok (.iadd, 1) := by decide +kernel
theorem dX11_nextPlaces_51 : decode cX11_nextPlaces 51 = .ok (.iastore, 1) := by decide +kernel
theorem dX11_nextPlaces_52 : decode cX11_nextPlaces 52 = .ok (.iconst 1, 1) := by decide +kernel
theorem dX11_nextPlaces_53 : decode cX11_nextPlaces 53 = .ok (.ireturn, 1) := by decide +kernel
theorem dX11_serve_0 : decode cX11_serve 0 = .ok (.aload_n 0, 1) := by decide +kernel
theorem dX11_serve_1 : decode cX11_serve 1 = .ok (.ldc 180, 2) := by decide +kernel
theorem dX11_serve_3 : decode cX11_serve 3 = .ok (.putfield 242, 3) := by decide +kernel
theorem dX11_serve_6 : decode cX11_serve 6 = .ok (.aload_n 0, 1) := by decide +kernel
theorem dX11_serve_7 : decode cX11_serve 7 = .ok (.getfield 32, 3) := by decide +kernel
theorem dX11_serve_10 : decode cX11_serve 10 = .ok (.iload_n 1, 1) := by decide +kernel
theorem dX11_serve_11 : decode cX11_serve 11 = .ok (.iaload, 1) := by decide +kernel
theorem dX11_serve_12 : decode cX11_serve 12 = .ok (.aload_n 0, 1) := by decide +kernel
theorem dX11_serve_13 : decode cX11_serve 13 = .ok (.getfield 32, 3) := by decide +kernel
theorem dX11_serve_16 : decode cX11_serve 16 = .ok (.iload_n 2, 1) := by decide +kernel
theorem dX11_serve_17 : decode cX11_serve 17 = .ok (.iaload, 1) := by decide +kernel
theorem dX11_serve_18 : decode cX11_serve 18 = .ok (.if_icmp .ne 7, 3) := by decide +kernel
theorem dX11_serve_21 : decode cX11_serve 21 = .ok (.iconst 0, 1) := by decide +kernel
theorem dX11_serve_22 : decode cX11_serve 22 = .ok (.goto 33, 3) := by decide +kernel
theorem dX11_serve_25 : decode cX11_serve 25 = .ok (.aload_n 0, 1) := by decide +kernel
theorem dX11_serve_26 : decode cX11_serve 26 = .ok (.getfield 56, 3) := by decide +kernel
theorem dX11_serve_29 : decode cX11_serve 29 = .ok (.bipush 100, 2) := by decide +kernel
theorem dX11_serve_31 : decode cX11_serve 31 = .ok (.aload_n 0, 1) := by decide +kernel
theorem dX11_serve_32 : decode cX11_serve 32 = .ok (.getfield 32, 3) := by decide +kernel
theorem dX11_serve_35 : decode cX11_serve 35 = .ok (.iload_n 1, 1) := by decide +kernel
theorem dX11_serve_36 : decode cX11_serve 36 = .ok (.iaload, 1) := by decide +kernel
theorem dX11_serve_37 : decode cX11_serve 37 = .ok (.imul, 1) := by decide +kernel
theorem dX11_serve_38 : decode cX11_serve 38 = .ok (.aload_n 0, 1) := by decide +kernel
theorem dX11_serve_39 : decode cX11_serve 39 = .ok (.getfield 32, 3) := by decide +kernel
theorem dX11_serve_42 : decode cX11_serve 42 = .ok (.iload_n 2, 1) := by decide +kernel
