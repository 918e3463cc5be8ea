theorem dX11_serve_43 : decode cX11_serve 43 = .ok (.iaload, 1) := by decide +kernel
theorem dX11_serve_44 : decode cX11_serve 44 = .ok (.iadd, 1) := by decide +kernel
theorem dX11_serve_45 : decode cX11_serve 45 = .ok (.baload, 1) := by decide +kernel
theorem dX11_serve_46 : decode cX11_serve 46 = .ok (.ifCond .eq 7, 3) := by decide +kernel
theorem dX11_serve_49 : decode cX11_serve 49 = .ok (.iconst 2, 1) := by decide +kernel
theorem dX11_serve_50 : decode cX11_serve 50 = .ok (.goto 5, 3) := by decide +kernel
theorem dX11_serve_53 : decode cX11_serve 53 = .ok (.ldc 180, 2) := by decide +kernel
theorem dX11_serve_55 : decode cX11_serve 55 = .ok (.istore_n 3, 1) := by decide +kernel
theorem dX11_serve_56 : decode cX11_serve 56 = .ok (.iload_n 3, 1) := by decide +kernel
theorem dX11_serve_57 : decode cX11_serve 57 = .ok (.ldc 180, 2) := by decide +kernel
theorem dX11_serve_59 : decode cX11_serve 59 = .ok (.if_icmp .ne 6, 3) := by decide +kernel
theorem dX11_serve_62 : decode cX11_serve 62 = .ok (.ldc 180, 2) := by decide +kernel
theorem dX11_serve_64 : decode cX11_serve 64 = .ok (.ireturn, 1) := by decide +kernel
theorem dX11_serve_65 : decode cX11_serve 65 = .ok (.iconst 0, 1) := by decide +kernel
theorem dX11_serve_66 : decode cX11_serve 66 = .ok (.istore 4, 2) := by decide +kernel
theorem dX11_serve_68 : decode cX11_serve 68 = .ok (.iload 4, 2) := by decide +kernel
theorem dX11_serve_70 : decode cX11_serve 70 = .ok (.iconst 4, 1) := by decide +kernel
theorem dX11_serve_71 : decode cX11_serve 71 = .ok (.if_icmp .ge 17, 3) := by decide +kernel
theorem dX11_serve_74 : decode cX11_serve 74 = .ok (.aload_n 0, 1) := by decide +kernel
theorem dX11_serve_75 : decode cX11_serve 75 = .ok (.getfield 90, 3) := by decide +kernel
theorem dX11_serve_78 : decode cX11_serve 78 = .ok (.iload 4, 2) := by decide +kernel
theorem dX11_serve_80 : decode cX11_serve 80 = .ok (.iconst 0, 1) := by decide +kernel
theorem dX11_serve_81 : decode cX11_serve 81 = .ok (.iastore, 1) := by decide +kernel
theorem dX11_serve_82 : decode cX11_serve 82 = .ok (.iinc 4 1, 3) := by decide +kernel
theorem dX11_serve_85 : decode cX11_serve 85 = .ok (.goto (-17), 3) := by decide +kernel
theorem dX11_serve_88 : decode cX11_serve 88 = .ok (.iconst 1, 1) := by decide +kernel
theorem dX11_serve_89 : decode cX11_serve 89 = .ok (.istore 4, 2) := by decide +kernel
theorem dX11_serve_91 : decode cX11_serve 91 = .ok (.iload 4, 2) := by decide +kernel
theorem dX11_serve_93 : decode cX11_serve 93 = .ok (.ifCond .eq 67, 3) := by decide +kernel
theorem dX11_serve_96 : decode cX11_serve 96 = .ok (.aload_n 0, 1) := by decide +kernel
theorem dX11_serve_97 : decode cX11_serve 97 = .ok (.iload_n 1, 1) := by decide +kernel
theorem dX11_serve_98 : decode cX11_serve 98 = .ok (.iload_n 2, 1) := by decide +kernel
theorem dX11_serve_99 : decode cX11_serve 99 = .ok (.invokevirtual 245, 3) := by decide +kernel
theorem dX11_serve_102 : decode cX11_serve 102 = .ok (.iload_n 3, 1) := by decide +kernel
theorem dX11_serve_103 : decode cX11_serve 103 = .ok (.iadd, 1) := by decide +kernel
theorem dX11_serve_104 : decode cX11_serve 104 = .ok (.istore 5, 2) := by decide +kernel
theorem dX11_serve_106 : decode cX11_serve 106 = .ok (.iload 5, 2) := by decide +kernel
theorem dX11_serve_108 : decode cX11_serve 108 = .ok (.aload_n 0, 1) := by decide +kernel
theorem dX11_serve_109 : decode cX11_serve 109 = .ok (.getfield 242, 3) := by decide +kernel
theorem dX11_serve_112 : decode cX11_serve 112 = .ok (.if_icmp .ge 38, 3) := by decide +kernel
theorem dX11_serve_115 : decode cX11_serve 115 = .ok (.aload_n 0, 1) := by decide +kernel
theorem dX11_serve_116 : decode cX11_serve 116 = .ok (.iload 5, 2) := by decide +kernel
theorem dX11_serve_118 : decode cX11_serve 118 = .ok (.putfield 242, 3) := by decide +kernel
theorem dX11_serve_121 : decode cX11_serve 121 = .ok (.iconst 0, 1) := by decide +kernel
theorem dX11_serve_122 : decode cX11_serve 122 = .ok (.istore 6, 2) := by decide +kernel
theorem dX11_serve_124 : decode cX11_serve 124 = .ok (.iload 6, 2) := by decide +kernel
theorem dX11_serve_126 : decode cX11_serve 126 = .ok (.iconst 4, 1) := by decide +kernel
theorem dX11_serve_127 : decode cX11_serve 127 = .ok (.if_icmp .ge 23, 3) := by decide +kernel
theorem dX11_serve_130 : decode cX11_serve 130 = .ok (.aload_n 0, 1) := by decide +kernel
theorem dX11_serve_131 : decode cX11_serve 131 = .ok (.getfield 93, 3) := by decide +kernel
theorem dX11_serve_134 : decode cX11_serve 134 = .ok (.iload 6, 2) := by decide +kernel
theorem dX11_serve_136 : decode cX11_serve 136 = .ok (.aload_n 0, 1) := by decide +kernel
theorem dX11_serve_137 : decode cX11_serve 137 = .ok (.getfield 90, 3) := by decide +kernel
theorem dX11_serve_140 : decode cX11_serve 140 = .ok (.iload 6, 2) := by decide +kernel
theorem dX11_serve_142 : decode cX11_serve 142 = .ok (.iaload, 1) := by decide +kernel
theorem dX11_serve_143 : decode cX11_serve 143 = .ok (.iastore, 1) := by decide +kernel
theorem dX11_serve_144 : decode cX11_serve 144 = .ok (.iinc 6 1, 3) := by decide +kernel
theorem dX11_serve_147 : decode cX11_serve 147 = .ok (.goto (-23), 3) := by decide +kernel
theorem dX11_serve_150 : decode cX11_serve 150 = .ok (.aload_n 0, 1) := by decide +kernel
theorem dX11_serve_151 : decode cX11_serve 151 = .ok (.iload_n 2, 1) := by decide +kernel
theorem dX11_serve_152 : decode cX11_serve 152 = .ok (.invokevirtual 249, 3) := by decide +kernel
theorem dX11_serve_155 : decode cX11_serve 155 = .ok (.istore 4, 2) := by decide +kernel
theorem dX11_serve_157 : decode cX11_serve 157 = .ok (.goto (-66), 3) := by decide +kernel
theorem dX11_serve_160 : decode cX11_serve 160 = .ok (.aload_n 0, 1) := by decide +kernel
theorem dX11_serve_161 : decode cX11_serve 161 = .ok (.getfield 242, 3) := by decide +kernel
theorem dX11_serve_164 : decode cX11_serve 164 = .ok (.ireturn, 1) := by decide +kernel
theorem dX11_findFit_0 : decode cX11_findFit 0 = .ok (.aload_n 0, 1) := by decide +kernel
theorem dX11_findFit_1 : decode cX11_findFit 1 = .ok (.ldc 180, 2) := by decide +kernel
theorem dX11_findFit_3 : decode cX11_findFit 3 = .ok (.putfield 253, 3) := by decide +kernel
theorem dX11_findFit_6 : decode cX11_findFit 6 = .ok (.iconst 0, 1) := by decide +kernel
theorem dX11_findFit_7 : decode cX11_findFit 7 = .ok (.istore_n 3, 1) := by decide +kernel
theorem dX11_findFit_8 : decode cX11_findFit 8 = .ok (.iload_n 3, 1) := by decide +kernel
theorem dX11_findFit_9 : decode cX11_findFit 9 = .ok (.aload_n 0, 1) := by decide +kernel
theorem dX11_findFit_10 : decode cX11_findFit 10 = .ok (.getfield 29, 3) := by decide +kernel
theorem dX11_findFit_13 : decode cX11_findFit 13 = .ok (.iload_n 2, 1) := by decide +kernel
theorem dX11_findFit_14 : decode cX11_findFit 14 = .ok (.iaload, 1) := by decide +kernel
theorem dX11_findFit_15 : decode cX11_findFit 15 = .ok (.if_icmp .ge 71, 3) := by decide +kernel
theorem dX11_findFit_18 : decode cX11_findFit 18 = .ok (.aload_n 0, 1) := by decide +kernel
theorem dX11_findFit_19 : decode cX11_findFit 19 = .ok (.iload_n 1, 1) := by decide +kernel
theorem dX11_findFit_20 : decode cX11_findFit 20 = .ok (.bipush 6, 2) := by decide +kernel
theorem dX11_findFit_22 : decode cX11_findFit 22 = .ok (.iload_n 2, 1) := by decide +kernel
theorem dX11_findFit_23 : decode cX11_findFit 23 = .ok (.imul, 1) := by decide +kernel
theorem dX11_findFit_24 : decode cX11_findFit 24 = .ok (.iload_n 3, 1) := by decide +kernel
theorem dX11_findFit_25 : decode cX11_findFit 25 = .ok (.iadd, 1) := by decide +kernel
theorem dX11_findFit_26 : decode cX11_findFit 26 = .ok (.invokevirtual 256, 3) := by decide +kernel
theorem dX11_findFit_29 : decode cX11_findFit 29 = .ok (.istore 4, 2) := by decide +kernel
theorem dX11_findFit_31 : decode cX11_findFit 31 = .ok (.iload 4, 2) := by decide +kernel
theorem dX11_findFit_33 : decode cX11_findFit 33 = .ok (.aload_n 0, 1) := by decide +kernel
theorem dX11_findFit_34 : decode cX11_findFit 34 = .ok (.getfield 253, 3) := by decide +kernel
theorem dX11_findFit_37 : decode cX11_findFit 37 = .ok (.if_icmp .ge 43, 3) := by decide +kernel
theorem dX11_findFit_40 : decode cX11_findFit 40 = .ok (.aload_n 0, 1) := by decide +kernel
theorem dX11_findFit_41 : decode cX11_findFit 41 = .ok (.iload 4, 2) := by decide +kernel
theorem dX11_findFit_43 : decode cX11_findFit 43 = .ok (.putfield 253, 3) := by decide +kernel
theorem dX11_findFit_46 : decode cX11_findFit 46 = .ok (.aload_n 0, 1) := by decide +kernel
theorem dX11_findFit_47 : decode cX11_findFit 47 = .ok (.iload_n 3, 1) := by decide +kernel
theorem dX11_findFit_48 : decode cX11_findFit 48 = .ok (.putfield 259, 3) := by decide +kernel
theorem dX11_findFit_51 : decode cX11_findFit 51 = .ok (.iconst 0, 1) := by decide +kernel
theorem dX11_findFit_52 : decode cX11_findFit 52 = .ok (.istore 5, 2) := by decide +kernel
theorem dX11_findFit_54 : decode cX11_findFit 54 = .ok (.iload 5, 2) := by decide +kernel
theorem dX11_findFit_56 : decode cX11_findFit 56 = .ok (.iconst 4, 1) := by decide +kernel
theorem dX11_findFit_57 : decode cX11_findFit 57 = .ok (.if_icmp .ge 23, 3) := by decide +kernel
theorem dX11_findFit_60 : decode cX11_findFit 60 = .ok (.aload_n 0, 1) := by decide +kernel
theorem dX11_findFit_61 : decode cX11_findFit 61 = .ok (.getfield 96, 3) := by decide +kernel
theorem dX11_findFit_64 : decode cX11_findFit 64 = .ok (.iload 5, 2) := by decide +kernel
theorem dX11_findFit_66 : decode cX11_findFit 66 = .ok (.aload_n 0, 1) := by decide +kernel
theorem dX11_findFit_67 : decode cX11_findFit 67 = .ok (.getfield 93, 3) := by decide +kernel
theorem dX11_findFit_70 : decode cX11_findFit 70 = .ok (.iload 5, 2) := by decide +kernel
theorem dX11_findFit_72 : decode cX11_findFit 72 = .ok (.iaload, 1) := by decide +kernel
theorem dX11_findFit_73 : decode cX11_findFit 73 = .ok (.iastore, 1) := by decide +kernel
theorem dX11_findFit_74 : decode cX11_findFit 74 = .ok (.iinc 5 1, 3) := by decide +kernel
theorem dX11_findFit_77 : decode cX11_findFit 77 = .ok (.goto (-23), 3) := by decide +kernel
theorem dX11_findFit_80 : decode cX11_findFit 80 = .ok (.iinc 3 1, 3) := by decide +kernel
theorem dX11_findFit_83 : decode cX11_findFit 83 = .ok (.goto (-75), 3) := by decide +kernel
theorem dX11_findFit_86 : decode cX11_findFit 86 = .ok (.aload_n 0, 1) := by decide +kernel
theorem dX11_findFit_87 : decode cX11_findFit 87 = .ok (.getfield 253, 3) := by decide +kernel
theorem dX11_findFit_90 : decode cX11_findFit 90 = .ok (.ldc 180, 2) := by decide +kernel
theorem dX11_findFit_92 : decode cX11_findFit 92 = .ok (.if_icmp .ge 7, 3) := by decide +kernel
theorem dX11_findFit_95 : decode cX11_findFit 95 = .ok (.iconst 1, 1) := by decide +kernel
theorem dX11_findFit_96 : decode cX11_findFit 96 = .ok (.goto 4, 3) := by decide +kernel
theorem dX11_findFit_99 : decode cX11_findFit 99 = .ok (.iconst 0, 1) := by decide +kernel
theorem dX11_findFit_100 : decode cX11_findFit 100 = .ok (.ireturn, 1) := by decide +kernel
theorem dX11_fit_0 : decode cX11_fit 0 = .ok (.aload_n 0, 1) := by decide +kernel
theorem dX11_fit_1 : decode cX11_fit 1 = .ok (.iconst 0, 1) := by decide +kernel
theorem dX11_fit_2 : decode cX11_fit 2 = .ok (.putfield 131, 3) := by decide +kernel
theorem dX11_fit_5 : decode cX11_fit 5 = .ok (.iload_n 1, 1) := by decide +kernel
theorem dX11_fit_6 : decode cX11_fit 6 = .ok (.i2l, 1) := by decide +kernel
theorem dX11_fit_7 : decode cX11_fit 7 = .ok (.lconst 0, 1) := by decide +kernel
theorem dX11_fit_8 : decode cX11_fit 8 = .ok (.ldc2_w 221, 3) := by decide +kernel
theorem dX11_fit_11 : decode cX11_fit 11 = .ok (.invokestatic 138, 3) := by decide +kernel
theorem dX11_fit_14 : decode cX11_fit 14 = .ok (.ifCond .eq 28, 3) := by decide +kernel
theorem dX11_fit_17 : decode cX11_fit 17 = .ok (.iload_n 3, 1) := by decide +kernel
theorem dX11_fit_18 : decode cX11_fit 18 = .ok (.i2l, 1) := by decide +kernel
theorem dX11_fit_19 : decode cX11_fit 19 = .ok (.lconst 0, 1) := by decide +kernel
theorem dX11_fit_20 : decode cX11_fit 20 = .ok (.ldc2_w 262, 3) := by decide +kernel
theorem dX11_fit_23 : decode cX11_fit 23 = .ok (.invokestatic 138, 3) := by decide +kernel
theorem dX11_fit_26 : decode cX11_fit 26 = .ok (.ifCond .eq 16, 3) := by decide +kernel
theorem dX11_fit_29 : decode cX11_fit 29 = .ok (.iload 4, 2) := by decide +kernel
theorem dX11_fit_31 : decode cX11_fit 31 = .ok (.i2l, 1) := by decide +kernel
theorem dX11_fit_32 : decode cX11_fit 32 = .ok (.lconst 0, 1) := by decide +kernel
theorem dX11_fit_33 : decode cX11_fit 33 = .ok (.ldc2_w 264, 3) := by decide +kernel
theorem dX11_fit_36 : decode cX11_fit 36 = .ok (.invokestatic 138, 3) := by decide +kernel
theorem dX11_fit_39 : decode cX11_fit 39 = .ok (.ifCond .ne 6, 3) := by decide +kernel
theorem dX11_fit_42 : decode cX11_fit 42 = .ok (.bipush (-3), 2) := by decide +kernel
theorem dX11_fit_44 : decode cX11_fit 44 = .ok (.ireturn, 1) := by decide +kernel
theorem dX11_fit_45 : decode cX11_fit 45 = .ok (.aload_n 0, 1) := by decide +kernel
theorem dX11_fit_46 : decode cX11_fit 46 = .ok (.bipush 10, 2) := by decide +kernel
theorem dX11_fit_48 : decode cX11_fit 48 = .ok (.iload_n 1, 1) := by decide +kernel
theorem dX11_fit_49 : decode cX11_fit 49 = .ok (.iadd, 1) := by decide +kernel
theorem dX11_fit_50 : decode cX11_fit 50 = .ok (.iload_n 2, 1) := by decide +kernel
theorem dX11_fit_51 : decode cX11_fit 51 = .ok (.invokevirtual 235, 3) := by decide +kernel
theorem dX11_fit_54 : decode cX11_fit 54 = .ok (.ifCond .ne 6, 3) := by decide +kernel
theorem dX11_fit_57 : decode cX11_fit 57 = .ok (.bipush (-2), 2) := by decide +kernel
theorem dX11_fit_59 : decode cX11_fit 59 = .ok (.ireturn, 1) := by decide +kernel
theorem dX11_fit_60 : decode cX11_fit 60 = .ok (.aload_n 0, 1) := by decide +kernel
theorem dX11_fit_61 : decode cX11_fit 61 = .ok (.invokevirtual 189, 3) := by decide +kernel
theorem dX11_fit_64 : decode cX11_fit 64 = .ok (.aload_n 0, 1) := by decide +kernel
theorem dX11_fit_65 : decode cX11_fit 65 = .ok (.bipush 6, 2) := by decide +kernel
theorem dX11_fit_67 : decode cX11_fit 67 = .ok (.bipush 10, 2) := by decide +kernel
theorem dX11_fit_69 : decode cX11_fit 69 = .ok (.iload_n 1, 1) := by decide +kernel
theorem dX11_fit_70 : decode cX11_fit 70 = .ok (.iadd, 1) := by decide +kernel
theorem dX11_fit_71 : decode cX11_fit 71 = .ok (.imul, 1) := by decide +kernel
theorem dX11_fit_72 : decode cX11_fit 72 = .ok (.iload_n 2, 1) := by decide +kernel
theorem dX11_fit_73 : decode cX11_fit 73 = .ok (.iadd, 1) := by decide +kernel
theorem dX11_fit_74 : decode cX11_fit 74 = .ok (.iload_n 3, 1) := by decide +kernel
theorem dX11_fit_75 : decode cX11_fit 75 = .ok (.invokevirtual 266, 3) := by decide +kernel
theorem dX11_fit_78 : decode cX11_fit 78 = .ok (.ifCond .ne 6, 3) := by decide +kernel
theorem dX11_fit_81 : decode cX11_fit 81 = .ok (.bipush (-6), 2) := by decide +kernel
theorem dX11_fit_83 : decode cX11_fit 83 = .ok (.ireturn, 1) := by decide +kernel
theorem dX11_fit_84 : decode cX11_fit 84 = .ok (.iload 4, 2) := by decide +kernel
theorem dX11_fit_86 : decode cX11_fit 86 = .ok (.iconst 2, 1) := by decide +kernel
theorem dX11_fit_87 : decode cX11_fit 87 = .ok (.if_icmp .ge 20, 3) := by decide +kernel
theorem dX11_fit_90 : decode cX11_fit 90 = .ok (.iload 4, 2) := by decide +kernel
theorem dX11_fit_92 : decode cX11_fit 92 = .ok (.ifCond .ne 10, 3) := by decide +kernel
theorem dX11_fit_95 : decode cX11_fit 95 = .ok (.aload_n 0, 1) := by decide +kernel
theorem dX11_fit_96 : decode cX11_fit 96 = .ok (.getfield 253, 3) := by decide +kernel
theorem dX11_fit_99 : decode cX11_fit 99 = .ok (.goto 7, 3) := by decide +kernel
theorem dX11_fit_102 : decode cX11_fit 102 = .ok (.aload_n 0, 1) := by decide +kernel
theorem dX11_fit_103 : decode cX11_fit 103 = .ok (.getfield 259, 3) := by decide +kernel
theorem dX11_fit_106 : decode cX11_fit 106 = .ok (.ireturn, 1) := by decide +kernel
theorem dX11_fit_107 : decode cX11_fit 107 = .ok (.iload 4, 2) := by decide +kernel
theorem dX11_fit_109 : decode cX11_fit 109 = .ok (.iconst 2, 1) := by decide +kernel
theorem dX11_fit_110 : decode cX11_fit 110 = .ok (.isub, 1) := by decide +kernel
theorem dX11_fit_111 : decode cX11_fit 111 = .ok (.aload_n 0, 1) := by decide +kernel
theorem dX11_fit_112 : decode cX11_fit 112 = .ok (.getfield 35, 3) := by decide +kernel
theorem dX11_fit_115 : decode cX11_fit 115 = .ok (.bipush 6, 2) := by decide +kernel
theorem dX11_fit_117 : decode cX11_fit 117 = .ok (.iload_n 3, 1) := by decide +kernel
theorem dX11_fit_118 : decode cX11_fit 118 = .ok (.imul, 1) := by decide +kernel
theorem dX11_fit_119 : decode cX11_fit 119 = .ok (.aload_n 0, 1) := by decide +kernel
theorem dX11_fit_120 : decode cX11_fit 120 = .ok (.getfield 259, 3) := by decide +kernel
theorem dX11_fit_123 : decode cX11_fit 123 = .ok (.iadd, 1) := by decide +kernel
theorem dX11_fit_124 : decode cX11_fit 124 = .ok (.iaload, 1) := by decide +kernel
theorem dX11_fit_125 : decode cX11_fit 125 = .ok (.if_icmp .lt 7, 3) := by decide +kernel
theorem dX11_fit_128 : decode cX11_fit 128 = .ok (.iconst (-1), 1) := by decide +kernel
theorem dX11_fit_129 : decode cX11_fit 129 = .ok (.goto 30, 3) := by decide +kernel
theorem dX11_fit_132 : decode cX11_fit 132 = .ok (.aload_n 0, 1) := by decide +kernel
theorem dX11_fit_133 : decode cX11_fit 133 = .ok (.getfield 96, 3) := by decide +kernel
theorem dX11_fit_136 : decode cX11_fit 136 = .ok (.iload 4, 2) := by decide +kernel
theorem dX11_fit_138 : decode cX11_fit 138 = .ok (.iconst 2, 1) := by decide +kernel
theorem dX11_fit_139 : decode cX11_fit 139 = .ok (.isub, 1) := by decide +kernel
theorem dX11_fit_140 : decode cX11_fit 140 = .ok (.iaload, 1) := by decide +kernel
theorem dX11_fit_141 : decode cX11_fit 141 = .ok (.iconst 4, 1) := by decide +kernel
theorem dX11_fit_142 : decode cX11_fit 142 = .ok (.if_icmp .ne 8, 3) := by decide +kernel
theorem dX11_fit_145 : decode cX11_fit 145 = .ok (.bipush 9, 2) := by decide +kernel
theorem dX11_fit_147 : decode cX11_fit 147 = .ok (.goto 12, 3) := by decide +kernel
theorem dX11_fit_150 : decode cX11_fit 150 = .ok (.aload_n 0, 1) := by decide +kernel
theorem dX11_fit_151 : decode cX11_fit 151 = .ok (.getfield 96, 3) := by decide +kernel
theorem dX11_fit_154 : decode cX11_fit 154 = .ok (.iload 4, 2) := by decide +kernel
theorem dX11_fit_156 : decode cX11_fit 156 = .ok (.iconst 2, 1) := by decide +kernel
theorem dX11_fit_157 : decode cX11_fit 157 = .ok (.isub, 1) := by decide +kernel
theorem dX11_fit_158 : decode cX11_fit 158 = .ok (.iaload, 1) := by decide +kernel
theorem dX11_fit_159 : decode cX11_fit 159 = .ok (.ireturn, 1) := by decide +kernel
theorem dX11_fitsAt_0 : decode cX11_fitsAt 0 = .ok (.iconst 0, 1) := by decide +kernel
theorem dX11_fitsAt_1 : decode cX11_fitsAt 1 = .ok (.istore_n 3, 1) := by decide +kernel
theorem dX11_fitsAt_2 : decode cX11_fitsAt 2 = .ok (.iconst 0, 1) := by decide +kernel
theorem dX11_fitsAt_3 : decode cX11_fitsAt 3 = .ok (.istore 4, 2) := by decide +kernel
theorem dX11_fitsAt_5 : decode cX11_fitsAt 5 = .ok (.iload 4, 2) := by decide +kernel
theorem dX11_fitsAt_7 : decode cX11_fitsAt 7 = .ok (.aload_n 0, 1) := by decide +kernel
theorem dX11_fitsAt_8 : decode cX11_fitsAt 8 = .ok (.getfield 29, 3) := by decide +kernel
theorem dX11_fitsAt_11 : decode cX11_fitsAt 11 = .ok (.bipush 10, 2) := by decide +kernel
theorem dX11_fitsAt_13 : decode cX11_fitsAt 13 = .ok (.iload_n 1, 1) := by decide +kernel
theorem dX11_fitsAt_14 : decode cX11_fitsAt 14 = .ok (.iadd, 1) := by decide +kernel
theorem dX11_fitsAt_15 : decode cX11_fitsAt 15 = .ok (.iaload, 1) := by decide +kernel
theorem dX11_fitsAt_16 : decode cX11_fitsAt 16 = .ok (.if_icmp .ge 39, 3) := by decide +kernel
theorem dX11_fitsAt_19 : decode cX11_fitsAt 19 = .ok (.iload_n 3, 1) := by decide +kernel
theorem dX11_fitsAt_20 : decode cX11_fitsAt 20 = .ok (.aload_n 0, 1) := by decide +kernel
theorem dX11_fitsAt_21 : decode cX11_fitsAt 21 = .ok (.bipush 6, 2) := by decide +kernel
theorem dX11_fitsAt_23 : decode cX11_fitsAt 23 = .ok (.bipush 10, 2) := by decide +kernel
theorem dX11_fitsAt_25 : decode cX11_fitsAt 25 = .ok (.iload_n 1, 1) := by decide +kernel
theorem dX11_fitsAt_26 : decode cX11_fitsAt 26 = .ok (.iadd, 1) := by decide +kernel
theorem dX11_fitsAt_27 : decode cX11_fitsAt 27 = .ok (.imul, 1) := by decide +kernel
theorem dX11_fitsAt_28 : decode cX11_fitsAt 28 = .ok (.iload 4, 2) := by decide +kernel
theorem dX11_fitsAt_30 : decode cX11_fitsAt 30 = .ok (.iadd, 1) := by decide +kernel
theorem dX11_fitsAt_31 : decode cX11_fitsAt 31 = .ok (.iload_n 2, 1) := by decide +kernel
theorem dX11_fitsAt_32 : decode cX11_fitsAt 32 = .ok (.invokevirtual 266, 3) := by decide +kernel
theorem dX11_fitsAt_35 : decode cX11_fitsAt 35 = .ok (.ifCond .eq 10, 3) := by decide +kernel
theorem dX11_fitsAt_38 : decode cX11_fitsAt 38 = .ok (.aload_n 0, 1) := by decide +kernel
theorem dX11_fitsAt_39 : decode cX11_fitsAt 39 = .ok (.getfield 253, 3) := by decide +kernel
theorem dX11_fitsAt_42 : decode cX11_fitsAt 42 = .ok (.goto 5, 3) := by decide +kernel
theorem dX11_fitsAt_45 : decode cX11_fitsAt 45 = .ok (.ldc 180, 2) := by decide +kernel
theorem dX11_fitsAt_47 : decode cX11_fitsAt 47 = .ok (.iadd, 1) := by decide +kernel
theorem dX11_fitsAt_48 : decode cX11_fitsAt 48 = .ok (.istore_n 3, 1) := by decide +kernel
theorem dX11_fitsAt_49 : decode cX11_fitsAt 49 = .ok (.iinc 4 1, 3) := by decide +kernel
theorem dX11_fitsAt_52 : decode cX11_fitsAt 52 = .ok (.goto (-47), 3) := by decide +kernel
theorem dX11_fitsAt_55 : decode cX11_fitsAt 55 = .ok (.iload_n 3, 1) := by decide +kernel
theorem dX11_fitsAt_56 : decode cX11_fitsAt 56 = .ok (.ireturn, 1) := by decide +kernel
theorem dX11_fits_0 : decode cX11_fits 0 = .ok (.aload_n 0, 1) := by decide +kernel
theorem dX11_fits_1 : decode cX11_fits 1 = .ok (.iconst 0, 1) := by decide +kernel
theorem dX11_fits_2 : decode cX11_fits 2 = .ok (.putfield 131, 3) := by decide +kernel
theorem dX11_fits_5 : decode cX11_fits 5 = .ok (.iload_n 1, 1) := by decide +kernel
theorem dX11_fits_6 : decode cX11_fits 6 = .ok (.i2l, 1) := by decide +kernel
theorem dX11_fits_7 : decode cX11_fits 7 = .ok (.lconst 0, 1) := by decide +kernel
theorem dX11_fits_8 : decode cX11_fits 8 = .ok (.ldc2_w 221, 3) := by decide +kernel
theorem dX11_fits_11 : decode cX11_fits 11 = .ok (.invokestatic 138, 3) := by decide +kernel
theorem dX11_fits_14 : decode cX11_fits 14 = .ok (.ifCond .eq 15, 3) := by decide +kernel
theorem dX11_fits_17 : decode cX11_fits 17 = .ok (.iload_n 2, 1) := by decide +kernel
theorem dX11_fits_18 : decode cX11_fits 18 = .ok (.i2l, 1) := by decide +kernel
theorem dX11_fits_19 : decode cX11_fits 19 = .ok (.lconst 0, 1) := by decide +kernel
theorem dX11_fits_20 : decode cX11_fits 20 = .ok (.ldc2_w 262, 3) := by decide +kernel
theorem dX11_fits_23 : decode cX11_fits 23 = .ok (.invokestatic 138, 3) := by decide +kernel
theorem dX11_fits_26 : decode cX11_fits 26 = .ok (.ifCond .ne 6, 3) := by decide +kernel
theorem dX11_fits_29 : decode cX11_fits 29 = .ok (.bipush (-3), 2) := by decide +kernel
theorem dX11_fits_31 : decode cX11_fits 31 = .ok (.ireturn, 1) := by decide +kernel
theorem dX11_fits_32 : decode cX11_fits 32 = .ok (.aload_n 0, 1) := by decide +kernel
theorem dX11_fits_33 : decode cX11_fits 33 = .ok (.invokevirtual 189, 3) := by decide +kernel
theorem dX11_fits_36 : decode cX11_fits 36 = .ok (.aload_n 0, 1) := by decide +kernel
theorem dX11_fits_37 : decode cX11_fits 37 = .ok (.iload_n 1, 1) := by decide +kernel
theorem dX11_fits_38 : decode cX11_fits 38 = .ok (.iload_n 2, 1) := by decide +kernel
theorem dX11_fits_39 : decode cX11_fits 39 = .ok (.invokevirtual 269, 3) := by decide +kernel
theorem dX11_fits_42 : decode cX11_fits 42 = .ok (.istore_n 3, 1) := by decide +kernel
theorem dX11_fits_43 : decode cX11_fits 43 = .ok (.iload_n 3, 1) := by decide +kernel
theorem dX11_fits_44 : decode cX11_fits 44 = .ok (.ldc 180, 2) := by decide +kernel
theorem dX11_fits_46 : decode cX11_fits 46 = .ok (.if_icmp .ge 7, 3) := by decide +kernel
theorem dX11_fits_49 : decode cX11_fits 49 = .ok (.iload_n 3, 1) := by decide +kernel
theorem dX11_fits_50 : decode cX11_fits 50 = .ok (.goto 5, 3) := by decide +kernel
theorem dX11_fits_53 : decode cX11_fits 53 = .ok (.bipush (-6), 2) := by decide +kernel
theorem dX11_fits_55 : decode cX11_fits 55 = .ok (.ireturn, 1) := by decide +kernel
theorem dX11_gap_0 : decode cX11_gap 0 = .ok (.aload_n 0, 1) := by decide +kernel
theorem dX11_gap_1 : decode cX11_gap 1 = .ok (.iconst 0, 1) := by decide +kernel
theorem dX11_gap_2 : decode cX11_gap 2 = .ok (.putfield 131, 3) := by decide +kernel
theorem dX11_gap_5 : decode cX11_gap 5 = .ok (.iload_n 1, 1) := by decide +kernel
theorem dX11_gap_6 : decode cX11_gap 6 = .ok (.i2l, 1) := by decide +kernel
theorem dX11_gap_7 : decode cX11_gap 7 = .ok (.lconst 0, 1) := by decide +kernel
theorem dX11_gap_8 : decode cX11_gap 8 = .ok (.ldc2_w 221, 3) := by decide +kernel
theorem dX11_gap_11 : decode cX11_gap 11 = .ok (.invokestatic 138, 3) := by decide +kernel
theorem dX11_gap_14 : decode cX11_gap 14 = .ok (.ifCond .eq 15, 3) := by decide +kernel
theorem dX11_gap_17 : decode cX11_gap 17 = .ok (.iload_n 2, 1) := by decide +kernel
theorem dX11_gap_18 : decode cX11_gap 18 = .ok (.i2l, 1) := by decide +kernel
theorem dX11_gap_19 : decode cX11_gap 19 = .ok (.lconst 0, 1) := by decide +kernel
theorem dX11_gap_20 : decode cX11_gap 20 = .ok (.ldc2_w 262, 3) := by decide +kernel
theorem dX11_gap_23 : decode cX11_gap 23 = .ok (.invokestatic 138, 3) := by decide +kernel
theorem dX11_gap_26 : decode cX11_gap 26 = .ok (.ifCond .ne 6, 3) := by decide +kernel
theorem dX11_gap_29 : decode cX11_gap 29 = .ok (.bipush (-3), 2) := by decide +kernel
theorem dX11_gap_31 : decode cX11_gap 31 = .ok (.ireturn, 1) := by decide +kernel
theorem dX11_gap_32 : decode cX11_gap 32 = .ok (.aload_n 0, 1) := by decide +kernel
theorem dX11_gap_33 : decode cX11_gap 33 = .ok (.invokevirtual 189, 3) := by decide +kernel
theorem dX11_gap_36 : decode cX11_gap 36 = .ok (.iconst 0, 1) := by decide +kernel
theorem dX11_gap_37 : decode cX11_gap 37 = .ok (.istore_n 3, 1) := by decide +kernel
theorem dX11_gap_38 : decode cX11_gap 38 = .ok (.iload_n 3, 1) := by decide +kernel
theorem dX11_gap_39 : decode cX11_gap 39 = .ok (.aload_n 0, 1) := by decide +kernel
theorem dX11_gap_40 : decode cX11_gap 40 = .ok (.getfield 29, 3) := by decide +kernel
theorem dX11_gap_43 : decode cX11_gap 43 = .ok (.bipush 10, 2) := by decide +kernel
theorem dX11_gap_45 : decode cX11_gap 45 = .ok (.iload_n 1, 1) := by decide +kernel
theorem dX11_gap_46 : decode cX11_gap 46 = .ok (.iadd, 1) := by decide +kernel
theorem dX11_gap_47 : decode cX11_gap 47 = .ok (.iaload, 1) := by decide +kernel
theorem dX11_gap_48 : decode cX11_gap 48 = .ok (.if_icmp .ge 28, 3) := by decide +kernel
theorem dX11_gap_51 : decode cX11_gap 51 = .ok (.aload_n 0, 1) := by decide +kernel
theorem dX11_gap_52 : decode cX11_gap 52 = .ok (.bipush 6, 2) := by decide +kernel
theorem dX11_gap_54 : decode cX11_gap 54 = .ok (.bipush 10, 2) := by decide +kernel
theorem dX11_gap_56 : decode cX11_gap 56 = .ok (.iload_n 1, 1) := by decide +kernel
theorem dX11_gap_57 : decode cX11_gap 57 = .ok (.iadd, 1) := by decide +kernel
theorem dX11_gap_58 : decode cX11_gap 58 = .ok (.imul, 1) := by decide +kernel
theorem dX11_gap_59 : decode cX11_gap 59 = .ok (.iload_n 3, 1) := by decide +kernel
theorem dX11_gap_60 : decode cX11_gap 60 = .ok (.iadd, 1) := by decide +kernel
theorem dX11_gap_61 : decode cX11_gap 61 = .ok (.iload_n 2, 1) := by decide +kernel
theorem dX11_gap_62 : decode cX11_gap 62 = .ok (.invokevirtual 266, 3) := by decide +kernel
theorem dX11_gap_65 : decode cX11_gap 65 = .ok (.ifCond .ne 5, 3) := by decide +kernel
theorem dX11_gap_68 : decode cX11_gap 68 = .ok (.iload_n 3, 1) := by decide +kernel
theorem dX11_gap_69 : decode cX11_gap 69 = .ok (.ireturn, 1) := by decide +kernel
theorem dX11_gap_70 : decode cX11_gap 70 = .ok (.iinc 3 1, 3) := by decide +kernel
theorem dX11_gap_73 : decode cX11_gap 73 = .ok (.goto (-35), 3) := by decide +kernel
theorem dX11_gap_76 : decode cX11_gap 76 = .ok (.iconst (-1), 1) := by decide +kernel
theorem dX11_gap_77 : decode cX11_gap 77 = .ok (.ireturn, 1) := by decide +kernel
theorem dX11_isWayAhead_0 : decode cX11_isWayAhead 0 = .ok (.iconst 0, 1) := by decide +kernel
theorem dX11_isWayAhead_1 : decode cX11_isWayAhead 1 = .ok (.istore 4, 2) := by decide +kernel
theorem dX11_isWayAhead_3 : decode cX11_isWayAhead 3 = .ok (.iload 4, 2) := by decide +kernel
theorem dX11_isWayAhead_5 : decode cX11_isWayAhead 5 = .ok (.iload_n 3, 1) := by decide +kernel
theorem dX11_isWayAhead_6 : decode cX11_isWayAhead 6 = .ok (.if_icmp .ge 57, 3) := by decide +kernel
theorem dX11_isWayAhead_9 : decode cX11_isWayAhead 9 = .ok (.aload_n 0, 1) := by decide +kernel
theorem dX11_isWayAhead_10 : decode cX11_isWayAhead 10 = .ok (.getfield 102, 3) := by decide +kernel
theorem dX11_isWayAhead_13 : decode cX11_isWayAhead 13 = .ok (.iload_n 1, 1) := by decide +kernel
theorem dX11_isWayAhead_14 : decode cX11_isWayAhead 14 = .ok (.iload 4, 2) := by decide +kernel
theorem dX11_isWayAhead_16 : decode cX11_isWayAhead 16 = .ok (.iadd, 1) := by decide +kernel
theorem dX11_isWayAhead_17 : decode cX11_isWayAhead 17 = .ok (.iaload, 1) := by decide +kernel
theorem dX11_isWayAhead_18 : decode cX11_isWayAhead 18 = .ok (.aload_n 0, 1) := by decide +kernel
theorem dX11_isWayAhead_19 : decode cX11_isWayAhead 19 = .ok (.getfield 102, 3) := by decide +kernel
theorem dX11_isWayAhead_22 : decode cX11_isWayAhead 22 = .ok (.iload_n 2, 1) := by decide +kernel
theorem dX11_isWayAhead_23 : decode cX11_isWayAhead 23 = .ok (.iload 4, 2) := by decide +kernel
theorem dX11_isWayAhead_25 : decode cX11_isWayAhead 25 = .ok (.iadd, 1) := by decide +kernel
theorem dX11_isWayAhead_26 : decode cX11_isWayAhead 26 = .ok (.iaload, 1) := by decide +kernel
theorem dX11_isWayAhead_27 : decode cX11_isWayAhead 27 = .ok (.if_icmp .eq 30, 3) := by decide +kernel
theorem dX11_isWayAhead_30 : decode cX11_isWayAhead 30 = .ok (.aload_n 0, 1) := by decide +kernel
theorem dX11_isWayAhead_31 : decode cX11_isWayAhead 31 = .ok (.getfield 102, 3) := by decide +kernel
theorem dX11_isWayAhead_34 : decode cX11_isWayAhead 34 = .ok (.iload_n 1, 1) := by decide +kernel
theorem dX11_isWayAhead_35 : decode cX11_isWayAhead 35 = .ok (.iload 4, 2) := by decide +kernel
theorem dX11_isWayAhead_37 : decode cX11_isWayAhead 37 = .ok (.iadd, 1) := by decide +kernel
theorem dX11_isWayAhead_38 : decode cX11_isWayAhead 38 = .ok (.iaload, 1) := by decide +kernel
theorem dX11_isWayAhead_39 : decode cX11_isWayAhead 39 = .ok (.aload_n 0, 1) := by decide +kernel
theorem dX11_isWayAhead_40 : decode cX11_isWayAhead 40 = .ok (.getfield 102, 3) := by decide +kernel
theorem dX11_isWayAhead_43 : decode cX11_isWayAhead 43 = .ok (.iload_n 2, 1) := by decide +kernel
theorem dX11_isWayAhead_44 : decode cX11_isWayAhead 44 = .ok (.iload 4, 2) := by decide +kernel
theorem dX11_isWayAhead_46 : decode cX11_isWayAhead 46 = .ok (.iadd, 1) := by decide +kernel
theorem dX11_isWayAhead_47 : decode cX11_isWayAhead 47 = .ok (.iaload, 1) := by decide +kernel
theorem dX11_isWayAhead_48 : decode cX11_isWayAhead 48 = .ok (.if_icmp .ge 7, 3) := by decide +kernel
theorem dX11_isWayAhead_51 : decode cX11_isWayAhead 51 = .ok (.iconst 1, 1) := by decide +kernel
theorem dX11_isWayAhead_52 : decode cX11_isWayAhead 52 = .ok (.goto 4, 3) := by decide +kernel
theorem dX11_isWayAhead_55 : decode cX11_isWayAhead 55 = .ok (.iconst 0, 1) := by decide +kernel
theorem dX11_isWayAhead_56 : decode cX11_isWayAhead 56 = .ok (.ireturn, 1) := by decide +kernel
theorem dX11_isWayAhead_57 : decode cX11_isWayAhead 57 = .ok (.iinc 4 1, 3) := by decide +kernel
theorem dX11_isWayAhead_60 : decode cX11_isWayAhead 60 = .ok (.goto (-57), 3) := by decide +kernel
theorem dX11_isWayAhead_63 : decode cX11_isWayAhead 63 = .ok (.iconst 0, 1) := by decide +kernel
theorem dX11_isWayAhead_64 : decode cX11_isWayAhead 64 = .ok (.ireturn, 1) := by decide +kernel
theorem dX11_findWay_0 : decode cX11_findWay 0 = .ok (.iconst 0, 1) := by decide +kernel
theorem dX11_findWay_1 : decode cX11_findWay 1 = .ok (.istore_n 3, 1) := by decide +kernel
theorem dX11_findWay_2 : decode cX11_findWay 2 = .ok (.iload_n 3, 1) := by decide +kernel
theorem dX11_findWay_3 : decode cX11_findWay 3 = .ok (.bipush 10, 2) := by decide +kernel
theorem dX11_findWay_5 : decode cX11_findWay 5 = .ok (.if_icmp .ge 63, 3) := by decide +kernel
theorem dX11_findWay_8 : decode cX11_findWay 8 = .ok (.iconst 0, 1) := by decide +kernel
theorem dX11_findWay_9 : decode cX11_findWay 9 = .ok (.istore 4, 2) := by decide +kernel
theorem dX11_findWay_11 : decode cX11_findWay 11 = .ok (.iload 4, 2) := by decide +kernel
theorem dX11_findWay_13 : decode cX11_findWay 13 = .ok (.bipush 10, 2) := by decide +kernel
theorem dX11_findWay_15 : decode cX11_findWay 15 = .ok (.if_icmp .ge 47, 3) := by decide +kernel
theorem dX11_findWay_18 : decode cX11_findWay 18 = .ok (.aload_n 0, 1) := by decide +kernel
theorem dX11_findWay_19 : decode cX11_findWay 19 = .ok (.iload 4, 2) := by decide +kernel
theorem dX11_findWay_21 : decode cX11_findWay 21 = .ok (.bipush 10, 2) := by decide +kernel
theorem dX11_findWay_23 : decode cX11_findWay 23 = .ok (.iload_n 3, 1) := by decide +kernel
theorem dX11_findWay_24 : decode cX11_findWay 24 = .ok (.iadd, 1) := by decide +kernel
theorem dX11_findWay_25 : decode cX11_findWay 25 = .ok (.invokevirtual 269, 3) := by decide +kernel
theorem dX11_findWay_28 : decode cX11_findWay 28 = .ok (.istore 5, 2) := by decide +kernel
theorem dX11_findWay_30 : decode cX11_findWay 30 = .ok (.aload_n 0, 1) := by decide +kernel
theorem dX11_findWay_31 : decode cX11_findWay 31 = .ok (.getfield 105, 3) := by decide +kernel
theorem dX11_findWay_34 : decode cX11_findWay 34 = .ok (.bipush 10, 2) := by decide +kernel
theorem dX11_findWay_36 : decode cX11_findWay 36 = .ok (.iload_n 3, 1) := by decide +kernel
theorem dX11_findWay_37 : decode cX11_findWay 37 = .ok (.imul, 1) := by decide +kernel
theorem dX11_findWay_38 : decode cX11_findWay 38 = .ok (.iload 4, 2) := by decide +kernel
theorem dX11_findWay_40 : decode cX11_findWay 40 = .ok (.iadd, 1) := by decide +kernel
theorem dX11_findWay_41 : decode cX11_findWay 41 = .ok (.iload 5, 2) := by decide +kernel
theorem dX11_findWay_43 : decode cX11_findWay 43 = .ok (.ldc 180, 2) := by decide +kernel
theorem dX11_findWay_45 : decode cX11_findWay 45 = .ok (.if_icmp .ge 8, 3) := by decide +kernel
theorem dX11_findWay_48 : decode cX11_findWay 48 = .ok (.iload 5, 2) := by decide +kernel
theorem dX11_findWay_50 : decode cX11_findWay 50 = .ok (.goto 5, 3) := by decide +kernel
theorem dX11_findWay_53 : decode cX11_findWay 53 = .ok (.ldc 180, 2) := by decide +kernel
theorem dX11_findWay_55 : decode cX11_findWay 55 = .ok (.iastore, 1) := by decide +kernel
theorem dX11_findWay_56 : decode cX11_findWay 56 = .ok (.iinc 4 1, 3) := by decide +kernel
theorem dX11_findWay_59 : decode cX11_findWay 59 = .ok (.goto (-48), 3) := by decide +kernel
theorem dX11_findWay_62 : decode cX11_findWay 62 = .ok (.iinc 3 1, 3) := by decide +kernel
theorem dX11_findWay_65 : decode cX11_findWay 65 = .ok (.goto (-63), 3) := by decide +kernel
theorem dX11_findWay_68 : decode cX11_findWay 68 = .ok (.iconst 0, 1) := by decide +kernel
theorem dX11_findWay_69 : decode cX11_findWay 69 = .ok (.istore_n 3, 1) := by decide +kernel
theorem dX11_findWay_70 : decode cX11_findWay 70 = .ok (.iload_n 3, 1) := by decide +kernel
theorem dX11_findWay_71 : decode cX11_findWay 71 = .ok (.bipush 100, 2) := by decide +kernel
