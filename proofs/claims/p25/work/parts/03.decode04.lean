theorem dX11_serve_43 : decode cX11_serve 43 = .ok (.iaload, 1) := by decide +kernel
theorem dX11_serve_44 : decode cX11_serve 44 = .ok (.iadd, 1) := by decide +kernel
theorem dX11_serve_45 : decode cX11_serve 45 = .ok (.baload, 1) := by decide +kernel
theorem dX11_serve_46 : decode cX11_serve 46 = .ok (.ifCond .eq 7, 3) := by decide +kernel
theorem dX11_serve_49 : decode cX11_serve 49 = .ok (.iconst 2, 1) := by decide +kernel
theorem dX11_serve_50 : decode cX11_serve 50 = .ok (.goto 5, 3) := by decide +kernel
theorem dX11_serve_53 : decode cX11_serve 53 = .ok (.ldc 180, 2) := by decide +kernel
theorem dX11_serve_55 : decode cX11_serve 55 = .ok (.istore_n 3, 1) := by decide +kernel
theorem dX11_serve_56 : decode cX11_serve 56 = .ok (.iload_n 3, 1) := by decide +kernel
theorem dX11_serve_57 : decode cX11_serve 57 = .ok (.ldc 180, 2) := by decide +kernel
theorem dX11_serve_59 : decode cX11_serve 59 = .ok (.if_icmp .ne 6, 3) := by decide +kernel
theorem dX11_serve_62 : decode cX11_serve 62 = .ok (.ldc 180, 2) := by decide +kernel
theorem dX11_serve_64 : decode cX11_serve 64 = .ok (.ireturn, 1) := by decide +kernel
theorem dX11_serve_65 : decode cX11_serve 65 = .ok (.iconst 0, 1) := by decide +kernel
theorem dX11_serve_66 : decode cX11_serve 66 = .ok (.istore 4, 2) := by decide +kernel
theorem dX11_serve_68 : decode cX11_serve 68 = .ok (.iload 4, 2) := by decide +kernel
theorem dX11_serve_70 : decode cX11_serve 70 = .ok (.iconst 4, 1) := by decide +kernel
theorem dX11_serve_71 : decode cX11_serve 71 = .ok (.if_icmp .ge 17, 3) := by decide +kernel
theorem dX11_serve_74 : decode cX11_serve 74 = .ok (.aload_n 0, 1) := by decide +kernel
theorem dX11_serve_75 : decode cX11_serve 75 = .ok (.getfield 90, 3) := by decide +kernel
theorem dX11_serve_78 : decode cX11_serve 78 = .ok (.iload 4, 2) := by decide +kernel
theorem dX11_serve_80 : decode cX11_serve 80 = .ok (.iconst 0, 1) := by decide +kernel
theorem dX11_serve_81 : decode cX11_serve 81 = .ok (.iastore, 1) := by decide +kernel
theorem dX11_serve_82 : decode cX11_serve 82 = .ok (.iinc 4 1, 3) := by decide +kernel
theorem dX11_serve_85 : decode cX11_serve 85 = .ok (.goto (-17), 3) := by decide +kernel
theorem dX11_serve_88 : decode cX11_serve 88 = .ok (.iconst 1, 1) := by decide +kernel
theorem dX11_serve_89 : decode cX11_serve 89 = .ok (.istore 4, 2) := by decide +kernel
theorem dX11_serve_91 : decode cX11_serve 91 = .ok (.iload 4, 2) := by decide +kernel
theorem dX11_serve_93 : decode cX11_serve 93 = .ok (.ifCond .eq 67, 3) := by decide +kernel
theorem dX11_serve_96 : decode cX11_serve 96 = .ok (.aload_n 0, 1) := by decide +kernel
theorem dX11_serve_97 : decode cX11_serve 97 = .ok (.iload_n 1, 1) := by decide +kernel
theorem dX11_serve_98 : decode cX11_serve 98 = .ok (.iload_n 2, 1) := by decide +kernel
theorem dX11_serve_99 : decode cX11_serve 99 = .ok (.invokevirtual 245, 3) := by decide +kernel
theorem dX11_serve_102 : decode cX11_serve 102 = .ok (.iload_n 3, 1) := by decide +kernel
theorem dX11_serve_103 : decode cX11_serve 103 = .ok (.iadd, 1) := by decide +kernel
theorem dX11_serve_104 : decode cX11_serve 104 = .ok (.istore 5, 2) := by decide +kernel
theorem dX11_serve_106 : decode cX11_serve 106 = .ok (.iload 5, 2) := by decide +kernel
theorem dX11_serve_108 : decode cX11_serve 108 = .ok (.aload_n 0, 1) := by decide +kernel
theorem dX11_serve_109 : decode cX11_serve 109 = .ok (.getfield 242, 3) := by decide +kernel
theorem dX11_serve_112 : decode cX11_serve 112 = .ok (.if_icmp .ge 38, 3) := by decide +kernel
theorem dX11_serve_115 : decode cX11_serve 115 = .ok (.aload_n 0, 1) := by decide +kernel
theorem dX11_serve_116 : decode cX11_serve 116 = .ok (.iload 5, 2) := by decide +kernel
theorem dX11_serve_118 : decode cX11_serve 118 = .ok (.putfield 242, 3) := by decide +kernel
theorem dX11_serve_121 : decode cX11_serve 121 = .ok (.iconst 0, 1) := by decide +kernel
theorem dX11_serve_122 : decode cX11_serve 122 = .ok (.istore 6, 2) := by decide +kernel
theorem dX11_serve_124 : decode cX11_serve 124 = .ok (.iload 6, 2) := by decide +kernel
theorem dX11_serve_126 : decode cX11_serve 126 = .ok (.iconst 4, 1) := by decide +kernel
theorem dX11_serve_127 : decode cX11_serve 127 = .ok (.if_icmp .ge 23, 3) := by decide +kernel
theorem dX11_serve_130 : decode cX11_serve 130 = .ok (.aload_n 0, 1) := by decide +kernel
theorem dX11_serve_131 : decode cX11_serve 131 = .ok (.getfield 93, 3) := by decide +kernel
theorem dX11_serve_134 : decode cX11_serve 134 = .ok (.iload 6, 2) := by decide +kernel
theorem dX11_serve_136 : decode cX11_serve 136 = .ok (.aload_n 0, 1) := by decide +kernel
theorem dX11_serve_137 : decode cX11_serve 137 = .ok (.getfield 90, 3) := by decide +kernel
theorem dX11_serve_140 : decode cX11_serve 140 = .ok (.iload 6, 2) := by decide +kernel
theorem dX11_serve_142 : decode cX11_serve 142 = .ok (.iaload, 1) := by decide +kernel
theorem dX11_serve_143 : decode cX11_serve 143 = .ok (.iastore, 1) := by decide +kernel
theorem dX11_serve_144 : decode cX11_serve 144 = .ok (.iinc 6 1, 3) := by decide +kernel
theorem dX11_serve_147 : decode cX11_serve 147 = .ok (.goto (-23), 3) := by decide +kernel
theorem dX11_serve_150 : decode cX11_serve 150 = .ok (.aload_n 0, 1) := by decide +kernel
theorem dX11_serve_151 : decode cX11_serve 151 = .ok (.iload_n 2, 1) := by decide +kernel
theorem dX11_serve_152 : decode cX11_serve 152 = .ok (.invokevirtual 249, 3) := by decide +kernel
theorem dX11_serve_155 : decode cX11_serve 155 = .ok (.istore 4, 2) := by decide +kernel
theorem dX11_serve_157 : decode cX11_serve 157 = .ok (.goto (-66), 3) := by decide +kernel
theorem dX11_serve_160 : decode cX11_serve 160 = .ok (.aload_n 0, 1) := by decide +kernel
theorem dX11_serve_161 : decode cX11_serve 161 = .ok (.getfield 242, 3) := by decide +kernel
theorem dX11_serve_164 : decode cX11_serve 164 = .ok (.ireturn, 1) := by decide +kernel
theorem dX11_findFit_0 : decode cX11_findFit 0 = .ok (.aload_n 0, 1) := by decide +kernel
theorem dX11_findFit_1 : decode cX11_findFit 1 = .ok (.ldc 180, 2) := by decide +kernel
theorem dX11_findFit_3 : decode cX11_findFit 3 = .ok (.putfield 253, 3) := by decide +kernel
theorem dX11_findFit_6 : decode cX11_findFit 6 = .ok (.iconst 0, 1) := by decide +kernel
theorem dX11_findFit_7 : decode cX11_findFit 7 = .ok (.istore_n 3, 1) := by decide +kernel
theorem dX11_findFit_8 : decode cX11_findFit 8 = .ok (.iload_n 3, 1) := by decide +kernel
theorem dX11_findFit_9 : decode cX11_findFit 9 = .ok (.aload_n 0, 1) := by decide +kernel
theorem dX11_findFit_10 : decode cX11_findFit 10 = .ok (.getfield 29, 3) := by decide +kernel
theorem dX11_findFit_13 : decode cX11_findFit 13 = .ok (.iload_n 2, 1) := by decide +kernel
theorem dX11_findFit_14 : decode cX11_findFit 14 = .ok (.iaload, 1) := by decide +kernel
theorem dX11_findFit_15 : decode cX11_findFit 15 = .ok (.if_icmp .ge 71, 3) := by decide +kernel
theorem dX11_findFit_18 : decode cX11_findFit 18 = .ok (.aload_n 0, 1) := by decide +kernel
theorem dX11_findFit_19 : decode cX11_findFit 19 = .ok (.iload_n 1, 1) := by decide +kernel
theorem dX11_findFit_20 : decode cX11_findFit 20 = .ok (.bipush 6, 2) := by decide +kernel
theorem dX11_findFit_22 : decode cX11_findFit 22 = .ok (.iload_n 2, 1) := by decide +kernel
theorem dX11_findFit_23 : decode cX11_findFit 23 = .ok (.imul, 1) := by decide +kernel
theorem dX11_findFit_24 : decode cX11_findFit 24 = .ok (.iload_n 3, 1) := by decide +kernel
theorem dX11_findFit_25 : decode cX11_findFit 25 = .ok (.iadd, 1) := by decide +kernel
theorem dX11_findFit_26 : decode cX11_findFit 26 = .ok (.invokevirtual 256, 3) := by decide +kernel
theorem dX11_findFit_29 : decode cX11_findFit 29 = .ok (.istore 4, 2) := by decide +kernel
theorem dX11_findFit_31 : decode cX11_findFit 31 = .ok (.iload 4, 2) := by decide +kernel
theorem dX11_findFit_33 : decode cX11_findFit 33 = .ok (.aload_n 0, 1) := by decide +kernel
theorem dX11_findFit_34 : decode cX11_findFit 34 = .ok (.getfield 253, 3) := by decide +kernel
theorem dX11_findFit_37 : decode cX11_findFit 37 = .ok (.if_icmp .ge 43, 3) := by decide +kernel
theorem dX11_findFit_40 : decode cX11_findFit 40 = .ok (.aload_n 0, 1) := by decide +kernel
theorem dX11_findFit_41 : decode cX11_findFit 41 = .ok (.iload 4, 2) := by decide +kernel
theorem dX11_findFit_43 : decode cX11_findFit 43 = .ok (.putfield 253, 3) := by decide +kernel
theorem dX11_findFit_46 : decode cX11_findFit 46 = .ok (.aload_n 0, 1) := by decide +kernel
theorem dX11_findFit_47 : decode cX11_findFit 47 = .ok (.iload_n 3, 1) := by decide +kernel
theorem dX11_findFit_48 : decode cX11_findFit 48 = .ok (.putfield 259, 3) := by decide +kernel
theorem dX11_findFit_51 : decode cX11_findFit 51 = .ok (.iconst 0, 1) := by decide +kernel
theorem dX11_findFit_52 : decode cX11_findFit 52 = .ok (.istore 5, 2) := by decide +kernel
theorem dX11_findFit_54 : decode cX11_findFit 54 = .ok (.iload 5, 2) := by decide +kernel
theorem dX11_findFit_56 : decode cX11_findFit 56 = .ok (.iconst 4, 1) := by decide +kernel
theorem dX11_findFit_57 : decode cX11_findFit 57 = .ok (.if_icmp .ge 23, 3) := by decide +kernel
theorem dX11_findFit_60 : decode cX11_findFit 60 = .ok (.aload_n 0, 1) := by decide +kernel
theorem dX11_findFit_61 : decode cX11_findFit 61 = .ok (.getfield 96, 3) := by decide +kernel
theorem dX11_findFit_64 : decode cX11_findFit 64 = .ok (.iload 5, 2) := by decide +kernel
theorem dX11_findFit_66 : decode cX11_findFit 66 = .ok (.aload_n 0, 1) := by decide +kernel
theorem dX11_findFit_67 : decode cX11_findFit 67 = .ok (.getfield 93, 3) := by decide +kernel
theorem dX11_findFit_70 : decode cX11_findFit 70 = .ok (.iload 5, 2) := by decide +kernel
theorem dX11_findFit_72 : decode cX11_findFit 72 = .ok (.iaload, 1) := by decide +kernel
theorem dX11_findFit_73 : decode cX11_findFit 73 = .ok (.iastore, 1) := by decide +kernel
theorem dX11_findFit_74 : decode cX11_findFit 74 = .ok (.iinc 5 1, 3) := by decide +kernel
theorem dX11_findFit_77 : decode cX11_findFit 77 = .ok (.goto (-23), 3) := by decide +kernel
theorem dX11_findFit_80 : decode cX11_findFit 80 = .ok (.iinc 3 1, 3) := by decide +kernel
theorem dX11_findFit_83 : decode cX11_findFit 83 = .ok (.goto (-75), 3) := by decide +kernel
theorem dX11_findFit_86 : decode cX11_findFit 86 = .ok (.aload_n 0, 1) := by decide +kernel
theorem dX11_findFit_87 : decode cX11_findFit 87 = .ok (.getfield 253, 3) := by decide +kernel
theorem dX11_findFit_90 : decode cX11_findFit 90 = .ok (.ldc 180, 2) := by decide +kernel
theorem dX11_findFit_92 : decode cX11_findFit 92 = .ok (.if_icmp .ge 7, 3) := by decide +kernel
theorem dX11_findFit_95 : decode cX11_findFit 95 = .ok (.iconst 1, 1) := by decide +kernel
theorem dX11_findFit_96 : decode cX11_findFit 96 = .ok (.goto 4, 3) := by decide +kernel
theorem dX11_findFit_99 : decode cX11_findFit 99 = .ok (.iconst 0, 1) := by decide +kernel
theorem dX11_findFit_100 : decode cX11_findFit 100 = .ok (.ireturn, 1) := by decide +kernel
theorem dX11_fit_0 : decode cX11_fit 0 = .ok (.aload_n 0, 1) := by decide +kernel
theorem dX11_fit_1 : decode cX11_fit 1 = .ok (.iconst 0, 1) := by decide +kernel
theorem dX11_fit_2 : decode cX11_fit 2 = .ok (.putfield 131, 3) := by decide +kernel
theorem dX11_fit_5 : decode cX11_fit 5 = .ok (.iload_n 1, 1) := by decide +kernel
theorem dX11_fit_6 : decode cX11_fit 6 = .ok (.i2l, 1) := by decide +kernel
theorem dX11_fit_7 : decode cX11_fit 7 = .ok (.lconst 0, 1) := by decide +kernel
theorem dX11_fit_8 : decode cX11_fit 8 = .ok (.ldc2_w 221, 3) := by decide +kernel
theorem dX11_fit_11 : decode cX11_fit 11 = .ok (.invokestatic 138, 3) := by decide +kernel
theorem dX11_fit_14 : decode cX11_fit 14 = .ok (.ifCond .eq 28, 3) := by decide +kernel
theorem dX11_fit_17 : decode cX11_fit 17 = .ok (.iload_n 3, 1) := by decide +kernel
theorem dX11_fit_18 : decode cX11_fit 18 = .ok (.i2l, 1) := by decide +kernel
theorem dX11_fit_19 : decode cX11_fit 19 = .ok (.lconst 0, 1) := by decide +kernel
theorem dX11_fit_20 : decode cX11_fit 20 = .ok (.ldc2_w 262, 3) := by decide +kernel
theorem dX11_fit_23 : decode cX11_fit 23 = .ok (.invokestatic 138, 3) := by decide +kernel
theorem dX11_fit_26 : decode cX11_fit 26 = .ok (.ifCond .eq 16, 3) := by decide +kernel
theorem dX11_fit_29 : decode cX11_fit 29 = .ok (.iload 4, 2) := by decide +kernel
theorem dX11_fit_31 : decode cX11_fit 31 = .ok (.i2l, 1) := by decide +kernel
theorem dX11_fit_32 : decode cX11_fit 32 = .ok (.lconst 0, 1) := by decide +kernel
theorem dX11_fit_33 : decode cX11_fit 33 = .ok (.ldc2_w 264, 3) := by decide +kernel
theorem dX11_fit_36 : decode cX11_fit 36 = .ok (.invokestatic 138, 3) := by decide +kernel
theorem dX11_fit_39 : decode cX11_fit 39 = .ok (.ifCond .ne 6, 3) := by decide +kernel
theorem dX11_fit_42 : decode cX11_fit 42 = .ok (.bipush (-3), 2) := by decide +kernel
theorem dX11_fit_44 : decode cX11_fit 44 = .ok (.ireturn, 1) := by decide +kernel
theorem dX11_fit_45 : decode cX11_fit 45 = .ok (.aload_n 0, 1) := by decide +kernel
theorem dX11_fit_46 : decode cX11_fit 46 = .ok (.bipush 10, 2) := by decide +kernel
theorem dX11_fit_48 : decode cX11_fit 48 = .ok (.iload_n 1, 1) := by decide +kernel
theorem dX11_fit_49 : decode cX11_fit 49 = .ok (.iadd, 1) := by decide +kernel
theorem dX11_fit_50 : decode cX11_fit 50 = .ok (.iload_n 2, 1) := by decide +kernel
theorem dX11_fit_51 : decode cX11_fit 51 = .ok (.invokevirtual 235, 3) := by decide +kernel
theorem dX11_fit_54 : decode cX11_fit 54 = .ok (.ifCond .ne 6, 3) := by decide +kernel
theorem dX11_fit_57 : decode cX11_fit 57 = .ok (.bipush (-2), 2) := by decide +kernel
theorem dX11_fit_59 : decode cX11_fit 59 = .ok (.ireturn, 1) := by decide +kernel
theorem dX11_fit_60 : decode cX11_fit 60 = .ok (.aload_n 0, 1) := by decide +kernel
theorem dX11_fit_61 : decode cX11_fit 61 = .ok (.invokevirtual 189, 3) := by decide +kernel
theorem dX11_fit_64 : decode cX11_fit 64 = .ok (.aload_n 0, 1) := by decide +kernel
theorem dX11_fit_65 : decode cX11_fit 65 = .ok (.bipush 6, 2) := by decide +kernel
theorem dX11_fit_67 : decode cX11_fit 67 = .ok (.bipush 10, 2) := by decide +kernel
theorem dX11_fit_69 : decode cX11_fit 69 = .ok (.iload_n 1, 1) := by decide +kernel
theorem dX11_fit_70 : decode cX11_fit 70 = .ok (.iadd, 1) := by decide +kernel
theorem dX11_fit_71 : decode cX11_fit 71 = .ok (.imul, 1) := by decide +kernel
theorem dX11_fit_72 : decode cX11_fit 72 = .ok (.iload_n 2, 1) := by decide +kernel
theorem dX11_fit_73 : decode cX11_fit 73 = .ok (.iadd, 1) := by decide +kernel
theorem dX11_fit_74 : decode cX11_fit 74 = .ok (.iload_n 3, 1) := by decide +kernel
theorem dX11_fit_75 : decode cX11_fit 75 = .ok (.invokevirtual 266, 3) := by decide +kernel
theorem dX11_fit_78 : decode cX11_fit 78 = .ok (.ifCond .ne 6, 3) := by decide +kernel
theorem dX11_fit_81 : decode cX11_fit 81 = .ok (.bipush (-6), 2) := by decide +kernel
theorem dX11_fit_83 : decode cX11_fit 83 = .ok (.ireturn, 1) := by decide +kernel
theorem dX11_fit_84 : decode cX11_fit 84 = .ok (.iload 4, 2) := by decide +kernel
theorem dX11_fit_86 : decode cX11_fit 86 = .ok (.iconst 2, 1) := by decide +kernel
theorem dX11_fit_87 : decode cX11_fit 87 = .ok (.if_icmp .ge 20, 3) := by decide +kernel
theorem dX11_fit_90 : decode cX11_fit 90 = .ok (.iload 4, 2) := by decide +kernel
theorem dX11_fit_92 : decode cX11_fit 92 = .ok (.ifCond .ne 10, 3) := by decide +kernel
theorem dX11_fit_95 : decode cX11_fit 95 = .ok (.aload_n 0, 1) := by decide +kernel
theorem dX11_fit_96 : decode cX11_fit 96 = .ok (.getfield 253, 3) := by decide +kernel
theorem dX11_fit_99 : decode cX11_fit 99 = .ok (.goto 7, 3) := by decide +kernel
theorem dX11_fit_102 : decode cX11_fit 102 = .ok (.aload_n 0, 1) := by decide +kernel
theorem dX11_fit_103 : decode cX11_fit 103 = .ok (.getfield 259, 3) := by decide +kernel
theorem dX11_fit_106 : decode cX11_fit 106 = .ok (.ireturn, 1) := by decide +kernel
theorem dX11_fit_107 : decode cX11_fit 107 = .ok (.iload 4, 2) := by decide +kernel
theorem dX11_fit_109 : decode cX11_fit 109 = .ok (.iconst 2, 1) := by decide +kernel
theorem dX11_fit_110 : decode cX11_fit 110 = .ok (.isub, 1) := by decide +kernel
theorem dX11_fit_111 : decode cX11_fit 111 = .ok (.aload_n 0, 1) := by decide +kernel
theorem dX11_fit_112 : decode cX11_fit 112 = .ok (.getfield 35, 3) := by decide +kernel
theorem dX11_fit_115 : decode cX11_fit 115 = .ok (.bipush 6, 2) := by decide +kernel
theorem dX11_fit_117 : decode cX11_fit 117 = .ok (.iload_n 3, 1) := by decide +kernel
theorem dX11_fit_118 : decode cX11_fit 118 = .ok (.imul, 1) := by decide +kernel
theorem dX11_fit_119 : decode cX11_fit 119 = .ok (.aload_n 0, 1) := by decide +kernel
theorem dX11_fit_120 : decode cX11_fit 120 = .ok (.getfield 259, 3) := by decide +kernel
theorem dX11_fit_123 : decode cX11_fit 123 = .ok (.iadd, 1) := by decide +kernel
theorem dX11_fit_124 : decode cX11_fit 124 = .ok (.iaload, 1) := by decide +kernel
theorem dX11_fit_125 : decode cX11_fit 125 = .ok (.if_icmp .lt 7, 3) := by decide +kernel
theorem dX11_fit_128 : decode cX11_fit 128 = .ok (.iconst (-1), 1) := by decide +kernel
theorem dX11_fit_129 : decode cX11_fit 129 = .ok (.goto 30, 3) := by decide +kernel
theorem dX11_fit_132 : decode cX11_fit 132 = .ok (.aload_n 0, 1) := by decide +kernel
theorem dX11_fit_133 : decode cX11_fit 133 = .ok (.getfield 96, 3) := by decide +kernel
theorem dX11_fit_136 : decode cX11_fit 136 = .ok (.iload 4, 2) := by decide +kernel
theorem dX11_fit_138 : decode cX11_fit 138 = .ok (.iconst 2, 1) := by decide +kernel
theorem dX11_fit_139 : decode cX11_fit 139 = .ok (.isub, 1) := by decide +kernel
theorem dX11_fit_140 : decode cX11_fit 140 = .ok (.iaload, 1) := by decide +kernel
theorem dX11_fit_141 : decode cX11_fit 141 = .ok (.iconst 4, 1) := by decide +kernel
theorem dX11_fit_142 : decode cX11_fit 142 = .ok (.if_icmp .ne 8, 3) := by decide +kernel
theorem dX11_fit_145 : decode cX11_fit 145 = .ok (.bipush 9, 2) := by decide +kernel
theorem dX11_fit_147 : decode cX11_fit 147 = .ok (.goto 12, 3) := by decide +kernel
theorem dX11_fit_150 : decode cX11_fit 150 = .ok (.aload_n 0, 1) := by decide +kernel
theorem dX11_fit_151 : decode cX11_fit 151 = .ok (.getfield 96, 3) := by decide +kernel
theorem dX11_fit_154 : decode cX11_fit 154 = .ok (.iload 4, 2) := by decide +kernel
theorem dX11_fit_156 : decode cX11_fit 156 = .ok (.iconst 2, 1) := by decide +kernel
theorem dX11_fit_157 : decode cX11_fit 157 = .ok (.isub, 1) := by decide +kernel
theorem dX11_fit_158 : decode cX11_fit 158 = .ok (.iaload, 1) := by decide +kernel
theorem dX11_fit_159 : decode cX11_fit 159 = .ok (.ireturn, 1) := by decide +kernel
theorem dX11_fitsAt_0 : decode cX11_fitsAt 0 = .ok (.iconst 0, 1) := by decide +kernel
theorem dX11_fitsAt_1 : decode cX11_fitsAt 1 = .ok (.istore_n 3, 1) := by decide +kernel
theorem dX11_fitsAt_2 : decode cX11_fitsAt 2 = .ok (.iconst 0, 1) := by decide +kernel
theorem dX11_fitsAt_3 : decode cX11_fitsAt 3 = .ok (.istore 4, 2) := by decide +kernel
theorem dX11_fitsAt_5 : decode cX11_fitsAt 5 = .ok (.iload 4, 2) := by decide +kernel
theorem dX11_fitsAt_7 : decode cX11_fitsAt 7 = .ok (.aload_n 0, 1) := by decide +kernel
theorem dX11_fitsAt_8 : decode cX11_fitsAt 8 = .ok (.getfield 29, 3) := by decide +kernel
theorem dX11_fitsAt_11 : decode cX11_fitsAt 11 = .ok (.bipush 10, 2) := by decide +kernel
theorem dX11_fitsAt_13 : decode cX11_fitsAt 13 = .ok (.iload_n 1, 1) := by decide +kernel
theorem dX11_fitsAt_14 : decode cX11_fitsAt 14 = .ok (.iadd, 1) := by decide +kernel
theorem dX11_fitsAt_15 : decode cX11_fitsAt 15 = .ok (.iaload, 1) := by decide +kernel
theorem dX11_fitsAt_16 : decode cX11_fitsAt 16 = .ok (.if_icmp .ge 39, 3) := by decide +kernel
theorem dX11_fitsAt_19 : decode cX11_fitsAt 19 = .ok (.iload_n 3, 1) := by decide +kernel
theorem dX11_fitsAt_20 : decode cX11_fitsAt 20 = .ok (.aload_n 0, 1) := by decide +kernel
theorem dX11_fitsAt_21 : decode cX11_fitsAt 21 = .ok (.bipush 6, 2) := by decide +kernel
theorem dX11_fitsAt_23 : decode cX11_fitsAt 23 = .ok (.bipush 10, 2) := by decide +kernel
theorem dX11_fitsAt_25 : decode cX11_fitsAt 25 = .ok (.iload_n 1, 1) := by decide +kernel
theorem dX11_fitsAt_26 : decode cX11_fitsAt 26 = .ok (.iadd, 1) := by decide +kernel
theorem dX11_fitsAt_27 : decode cX11_fitsAt 27 = .ok (.imul, 1) := by decide +kernel
theorem dX11_fitsAt_28 : decode cX11_fitsAt 28 = .ok (.iload 4, 2) := by decide +kernel
theorem dX11_fitsAt_30 : decode cX11_fitsAt 30 = .ok (.iadd, 1) := by decide +kernel
theorem dX11_fitsAt_31 : decode cX11_fitsAt 31 = .ok (.iload_n 2, 1) := by decide +kernel
theorem dX11_fitsAt_32 : decode cX11_fitsAt 32 = .ok (.invokevirtual 266, 3) := by decide +kernel
theorem dX11_fitsAt_35 : decode cX11_fitsAt 35 = .ok (.ifCond .eq 10, 3) := by decide +kernel
theorem dX11_fitsAt_38 : decode cX11_fitsAt 38 = .ok (.aload_n 0, 1) := by decide +kernel
theorem dX11_fitsAt_39 : decode cX11_fitsAt 39 = .ok (.getfield 253, 3) := by decide +kernel
theorem dX11_fitsAt_42 : decode cX11_fitsAt 42 = .ok (.goto 5, 3) := by decide +kernel
theorem dX11_fitsAt_45 : decode cX11_fitsAt 45 = .ok (.ldc 180, 2) := by decide +kernel
theorem dX11_fitsAt_47 : decode cX11_fitsAt 47 = .ok (.iadd, 1) := by decide +kernel
theorem dX11_fitsAt_48 : decode cX11_fitsAt 48 = .ok (.istore_n 3, 1) := by decide +kernel
theorem dX11_fitsAt_49 : decode cX11_fitsAt 49 = .ok (.iinc 4 1, 3) := by decide +kernel
theorem dX11_fitsAt_52 : decode cX11_fitsAt 52 = .ok (.goto (-47), 3) := by decide +kernel
theorem dX11_fitsAt_55 : decode cX11_fitsAt 55 = .ok (.iload_n 3, 1) := by decide +kernel
theorem dX11_fitsAt_56 : decode cX11_fitsAt 56 = .ok (.ireturn, 1) := by decide +kernel
theorem dX11_fits_0 : decode cX11_fits 0 = .ok (.aload_n 0, 1) := by decide +kernel
theorem dX11_fits_1 : decode cX11_fits 1 = .ok (.iconst 0, 1) := by decide +kernel
theorem dX11_fits_2 : decode cX11_fits 2 = .ok (.putfield 131, 3) := by decide +kernel
theorem dX11_fits_5 : decode cX11_fits 5 = .ok (.iload_n 1, 1) := by decide +kernel
theorem dX11_fits_6 : decode cX11_fits 6 = .ok (.i2l, 1) := by decide +kernel
theorem dX11_fits_7 : decode cX11_fits 7 = .ok (.lconst 0, 1) := by decide +kernel
theorem dX11_fits_8 : decode cX11_fits 8 = .ok (.ldc2_w 221, 3) := by decide +kernel
theorem dX11_fits_11 : decode cX11_fits 11 = .ok (.invokestatic 138, 3) := by decide +kernel
theorem dX11_fits_14 : decode cX11_fits 14 = .ok (.ifCond .eq 15, 3) := by decide +kernel
theorem dX11_fits_17 : decode cX11_fits 17 = .ok (.iload_n 2, 1) := by decide +kernel
theorem dX11_fits_18 : decode cX11_fits 18 = .ok (.i2l, 1) := by decide +kernel
theorem dX11_fits_19 : decode cX11_fits 19 = .ok (.lconst 0, 1) := by decide +kernel
theorem dX11_fits_20 : decode cX11_fits 20 = .ok (.ldc2_w 262, 3) := by decide +kernel
theorem dX11_fits_23 : decode cX11_fits 23 = .ok (.invokestatic 138, 3) := by decide +kernel
theorem dX11_fits_26 : decode cX11_fits 26 = .ok (.ifCond .ne 6, 3) := by decide +kernel
theorem dX11_fits_29 : decode cX11_fits 29 = .ok (.bipush (-3), 2) := by decide +kernel
theorem dX11_fits_31 : decode cX11_fits 31 = .ok (.ireturn, 1) := by decide +kernel
theorem dX11_fits_32 : decode cX11_fits 32 = .ok (.aload_n 0, 1) := by decide +kernel
theorem dX11_fits_33 : decode cX11_fits 33 = .ok (.invokevirtual 189, 3) := by decide +kernel
theorem dX11_fits_36 : decode cX11_fits 36 = .ok (.aload_n 0, 1) := by decide +kernel
theorem dX11_fits_37 : decode cX11_fits 37 = .ok (.iload_n 1, 1) := by decide +kernel
theorem dX11_fits_38 : decode cX11_fits 38 = .ok (.iload_n 2, 1) := by decide +kernel
theorem dX11_fits_39 : decode cX11_fits 39 = .ok (.invokevirtual 269, 3) := by decide +kernel
theorem dX11_fits_42 : decode cX11_fits 42 = .ok (.istore_n 3, 1) := by decide +kernel
theorem dX11_fits_43 : decode cX11_fits 43 = .ok (.iload_n 3, 1) := by decide +kernel
theorem dX11_fits_44 : decode cX11_fits 44 = .ok (.ldc 180, 2) := by decide +kernel
theorem dX11_fits_46 : decode cX11_fits 46 = .ok (.if_icmp .ge 7, 3) := by decide +kernel
theorem dX11_fits_49 : decode cX11_fits 49 = .ok (.iload_n 3, 1) := by decide +kernel
theorem dX11_fits_50 : decode cX11_fits 50 = .ok (.goto 5, 3) := by decide +kernel
theorem dX11_fits_53 : decode cX11_fits 53 = .ok (.bipush (-6), 2) := by decide +kernel
theorem dX11_fits_55 : decode cX11_fits 55 = .ok (.ireturn, 1) := by decide +kernel
theorem dX11_gap_0 : decode cX11_gap 0 = .ok (.aload_n 0, 1) := by decide +kernel
theorem dX11_gap_1 : decode cX11_gap 1 = .ok (.iconst 0, 1) := by decide +kernel
theorem dX11_gap_2 : decode cX11_gap 2 = .ok (.putfield 131, 3) := by decide +kernel
theorem dX11_gap_5 : decode cX11_gap 5 = .ok (.iload_n 1, 1) := by decide +kernel
theorem dX11_gap_6 : decode cX11_gap 6 = .ok (.i2l, 1) := by decide +kernel
theorem dX11_gap_7 : decode cX11_gap 7 = .ok (.lconst 0, 1) := by decide +kernel
theorem dX11_gap_8 : decode cX11_gap 8 = .ok (.ldc2_w 221, 3) := by decide +kernel
theorem dX11_gap_11 : decode cX11_gap 11 = .ok (.invokestatic 138, 3) := by decide +kernel
theorem dX11_gap_14 : decode cX11_gap 14 = .ok (.ifCond .eq 15, 3) := by decide +kernel
theorem dX11_gap_17 : decode cX11_gap 17 = .ok (.iload_n 2, 1) := by decide +kernel
theorem dX11_gap_18 : decode cX11_gap 18 = .ok (.i2l, 1) := by decide +kernel
theorem dX11_gap_19 : decode cX11_gap 19 = .ok (.lconst 0, 1) := by decide +kernel
theorem dX11_gap_20 : decode cX11_gap 20 = .ok (.ldc2_w 262, 3) := by decide +kernel
theorem dX11_gap_23 : decode cX11_gap 23 = .ok (.invokestatic 138, 3) := by decide +kernel
theorem dX11_gap_26 : decode cX11_gap 26 = .ok (.ifCond .ne 6, 3) := by decide +kernel
theorem dX11_gap_29 : decode cX11_gap 29 = .ok (.bipush (-3), 2) := by decide +kernel
theorem dX11_gap_31 : decode cX11_gap 31 = .ok (.ireturn, 1) := by decide +kernel
theorem dX11_gap_32 : decode cX11_gap 32 = .ok (.aload_n 0, 1) := by decide +kernel
theorem dX11_gap_33 : decode cX11_gap 33 = .ok (.invokevirtual 189, 3) := by decide +kernel
theorem dX11_gap_36 : decode cX11_gap 36 = .ok (.iconst 0, 1) := by decide +kernel
theorem dX11_gap_37 : decode cX11_gap 37 = .ok (.istore_n 3, 1) := by decide +kernel
theorem dX11_gap_38 : decode cX11_gap 38 = .ok (.iload_n 3, 1) := by decide +kernel
theorem dX11_gap_39 : decode cX11_gap 39 = .ok (.aload_n 0, 1) := by decide +kernel
theorem dX11_gap_40 : decode cX11_gap 40 = .ok (.getfield 29, 3) := by decide +kernel
theorem dX11_gap_43 : decode cX11_gap 43 = .ok (.bipush 10, 2) := by decide +kernel
theorem dX11_gap_45 : decode cX11_gap 45 = .ok (.iload_n 1, 1) := by decide +kernel
theorem dX11_gap_46 : decode cX11_gap 46 = .ok (.iadd, 1) := by decide +kernel
theorem dX11_gap_47 : decode cX11_gap 47 = .ok (.iaload, 1) := by decide +kernel
theorem dX11_gap_48 : decode cX11_gap 48 = .ok (.if_icmp .ge 28, 3) := by decide +kernel
theorem dX11_gap_51 : decode cX11_gap 51 = .ok (.aload_n 0, 1) := by decide +kernel
theorem dX11_gap_52 : decode cX11_gap 52 = .ok (.bipush 6, 2) := by decide +kernel
theorem dX11_gap_54 : decode cX11_gap 54 = .ok (.bipush 10, 2) := by decide +kernel
theorem dX11_gap_56 : decode cX11_gap 56 = .ok (.iload_n 1, 1) := by decide +kernel
theorem dX11_gap_57 : decode cX11_gap 57 = .ok (.iadd, 1) := by decide +kernel
theorem dX11_gap_58 : decode cX11_gap 58 = .ok (.imul, 1) := by decide +kernel
theorem dX11_gap_59 : decode cX11_gap 59 = .ok (.iload_n 3, 1) := by decide +kernel
theorem dX11_gap_60 : decode cX11_gap 60 = .ok (.iadd, 1) := by decide +kernel
theorem dX11_gap_61 : decode cX11_gap 61 = .ok (.iload_n 2, 1) := by decide +kernel
theorem dX11_gap_62 : decode cX11_gap 62 = .ok (.invokevirtual 266, 3) := by decide +kernel
theorem dX11_gap_65 : decode cX11_gap 65 = .ok (.ifCond .ne 5, 3) := by decide +kernel
theorem dX11_gap_68 : decode cX11_gap 68 = .ok (.iload_n 3, 1) := by decide +kernel
theorem dX11_gap_69 : decode cX11_gap 69 = .ok (.ireturn, 1) := by decide +kernel
theorem dX11_gap_70 : decode cX11_gap 70 = .ok (.iinc 3 1, 3) := by decide +kernel
theorem dX11_gap_73 : decode cX11_gap 73 = .ok (.goto (-35), 3) := by decide +kernel
theorem dX11_gap_76 : decode cX11_gap 76 = .ok (.iconst (-1), 1) := by decide +kernel
theorem dX11_gap_77 : decode cX11_gap 77 = .ok (.ireturn, 1) := by decide +kernel
theorem dX11_isWayAhead_0 : decode cX11_isWayAhead 0 = .ok (.iconst 0, 1) := by decide +kernel
theorem dX11_isWayAhead_1 : decode cX11_isWayAhead 1 = .ok (.istore 4, 2) := by decide +kernel
theorem dX11_isWayAhead_3 : decode cX11_isWayAhead 3 = .ok (.iload 4, 2) := by decide +kernel
theorem dX11_isWayAhead_5 : decode cX11_isWayAhead 5 = .ok (.iload_n 3, 1) := by decide +kernel
theorem dX11_isWayAhead_6 : decode cX11_isWayAhead 6 = .ok (.if_icmp .ge 57, 3) := by decide +kernel
theorem dX11_isWayAhead_9 : decode cX11_isWayAhead 9 = .ok (.aload_n 0, 1) := by decide +kernel
theorem dX11_isWayAhead_10 : decode cX11_isWayAhead 10 = .ok (.getfield 102, 3) := by decide +kernel
theorem dX11_isWayAhead_13 : decode cX11_isWayAhead 13 = .ok (.iload_n 1, 1) := by decide +kernel
theorem dX11_isWayAhead_14 : decode cX11_isWayAhead 14 = .ok (.iload 4, 2) := by decide +kernel
theorem dX11_isWayAhead_16 : decode cX11_isWayAhead 16 = .ok (.iadd, 1) := by decide +kernel
theorem dX11_isWayAhead_17 : decode cX11_isWayAhead 17 = .ok (.iaload, 1) := by decide +kernel
theorem dX11_isWayAhead_18 : decode cX11_isWayAhead 18 = .ok (.aload_n 0, 1) := by decide +kernel
theorem dX11_isWayAhead_19 : decode cX11_isWayAhead 19 = .ok (.getfield 102, 3) := by decide +kernel
theorem dX11_isWayAhead_22 : decode cX11_isWayAhead 22 = .ok (.iload_n 2, 1) := by decide +kernel
theorem dX11_isWayAhead_23 : decode cX11_isWayAhead 23 = .ok (.iload 4, 2) := by decide +kernel
theorem dX11_isWayAhead_25 : decode cX11_isWayAhead 25 = .ok (.iadd, 1) := by decide +kernel
theorem dX11_isWayAhead_26 : decode cX11_isWayAhead 26 = .ok (.iaload, 1) := by decide +kernel
theorem dX11_isWayAhead_27 : decode cX11_isWayAhead 27 = .ok (.if_icmp .eq 30, 3) := by decide +kernel
theorem dX11_isWayAhead_30 : decode cX11_isWayAhead 30 = .ok (.aload_n 0, 1) := by decide +kernel
theorem dX11_isWayAhead_31 : decode cX11_isWayAhead 31 = .ok (.getfield 102, 3) := by decide +kernel
theorem dX11_isWayAhead_34 : decode cX11_isWayAhead 34 = .ok (.iload_n 1, 1) := by decide +kernel
theorem dX11_isWayAhead_35 : decode cX11_isWayAhead 35 = .ok (.iload 4, 2) := by decide +kernel
theorem dX11_isWayAhead_37 : decode cX11_isWayAhead 37 = .ok (.iadd, 1) := by decide +kernel
theorem dX11_isWayAhead_38 : decode cX11_isWayAhead 38 = .ok (.iaload, 1) := by decide +kernel
theorem dX11_isWayAhead_39 : decode cX11_isWayAhead 39 = .ok (.aload_n 0, 1) := by decide +kernel
theorem dX11_isWayAhead_40 : decode cX11_isWayAhead 40 = .ok (.getfield 102, 3) := by decide +kernel
theorem dX11_isWayAhead_43 : decode cX11_isWayAhead 43 = .ok (.iload_n 2, 1) := by decide +kernel
theorem dX11_isWayAhead_44 : decode cX11_isWayAhead 44 = .ok (.iload 4, 2) := by decide +kernel
theorem dX11_isWayAhead_46 : decode cX11_isWayAhead 46 = .ok (.iadd, 1) := by decide +kernel
theorem dX11_isWayAhead_47 : decode cX11_isWayAhead 47 = .ok (.iaload, 1) := by decide +kernel
theorem dX11_isWayAhead_48 : decode cX11_isWayAhead 48 = .ok (.if_icmp .ge 7, 3) := by decide +kernel
theorem dX11_isWayAhead_51 : decode cX11_isWayAhead 51 = .ok (.iconst 1, 1) := by decide +kernel
theorem dX11_isWayAhead_52 : decode cX11_isWayAhead 52 = .ok (.goto 4, 3) := by decide +kernel
theorem dX11_isWayAhead_55 : decode cX11_isWayAhead 55 = .ok (.iconst 0, 1) := by decide +kernel
theorem dX11_isWayAhead_56 : decode cX11_isWayAhead 56 = .ok (.ireturn, 1) := by decide +kernel
theorem dX11_isWayAhead_57 : decode cX11_isWayAhead 57 = .ok (.iinc 4 1, 3) := by decide +kernel
theorem dX11_isWayAhead_60 : decode cX11_isWayAhead 60 = .ok (.goto (-57), 3) := by decide +kernel
theorem dX11_isWayAhead_63 : decode cX11_isWayAhead 63 = .ok (.iconst 0, 1) := by decide +kernel
theorem dX11_isWayAhead_64 : decode cX11_isWayAhead 64 = .ok (.ireturn, 1) := by decide +kernel
theorem dX11_findWay_0 : decode cX11_findWay 0 = .ok (.iconst 0, 1) := by decide +kernel
theorem dX11_findWay_1 : decode cX11_findWay 1 = .ok (.istore_n 3, 1) := by decide +kernel
theorem dX11_findWay_2 : decode cX11_findWay 2 = .ok (.iload_n 3, 1) := by decide +kernel
theorem dX11_findWay_3 : decode cX11_findWay 3 = .ok (.bipush 10, 2) := by decide +kernel
theorem dX11_findWay_5 : decode cX11_findWay 5 = .ok (.if_icmp .ge 63, 3) := by decide +kernel
theorem dX11_findWay_8 : decode cX11_findWay 8 = .ok (.iconst 0, 1) := by decide +kernel
theorem dX11_findWay_9 : decode cX11_findWay 9 = .ok (.istore 4, 2) := by decide +kernel
theorem dX11_findWay_11 : decode cX11_findWay 11 = .ok (.iload 4, 2) := by decide +kernel
theorem dX11_findWay_13 : decode cX11_findWay 13 = .ok (.bipush 10, 2) := by decide +kernel
theorem dX11_findWay_15 : decode cX11_findWay 15 = .ok (.if_icmp .ge 47, 3) := by decide +kernel
theorem dX11_findWay_18 : decode cX11_findWay 18 = .ok (.aload_n 0, 1) := by decide +kernel
theorem dX11_findWay_19 : decode cX11_findWay 19 = .ok (.iload 4, 2) := by decide +kernel
theorem dX11_findWay_21 : decode cX11_findWay 21 = .ok (.bipush 10, 2) := by decide +kernel
theorem dX11_findWay_23 : decode cX11_findWay 23 = .ok (.iload_n 3, 1) := by decide +kernel
theorem dX11_findWay_24 : decode cX11_findWay 24 = .ok (.iadd, 1) := by decide +kernel
theorem dX11_findWay_25 : decode cX11_findWay 25 = .ok (.invokevirtual 269, 3) := by decide +kernel
theorem dX11_findWay_28 : decode cX11_findWay 28 = .ok (.istore 5, 2) := by decide +kernel
theorem dX11_findWay_30 : decode cX11_findWay 30 = .ok (.aload_n 0, 1) := by decide +kernel
theorem dX11_findWay_31 : decode cX11_findWay 31 = .ok (.getfield 105, 3) := by decide +kernel
theorem dX11_findWay_34 : decode cX11_findWay 34 = .ok (.bipush 10, 2) := by decide +kernel
theorem dX11_findWay_36 : decode cX11_findWay 36 = .ok (.iload_n 3, 1) := by decide +kernel
theorem dX11_findWay_37 : decode cX11_findWay 37 = .ok (.imul, 1) := by decide +kernel
theorem dX11_findWay_38 : decode cX11_findWay 38 = .ok (.iload 4, 2) := by decide +kernel
theorem dX11_findWay_40 : decode cX11_findWay 40 = .ok (.iadd, 1) := by decide +kernel
theorem dX11_findWay_41 : decode cX11_findWay 41 = .ok (.iload 5, 2) := by decide +kernel
theorem dX11_findWay_43 : decode cX11_findWay 43 = .ok (.ldc 180, 2) := by decide +kernel
theorem dX11_findWay_45 : decode cX11_findWay 45 = .ok (.if_icmp .ge 8, 3) := by decide +kernel
theorem dX11_findWay_48 : decode cX11_findWay 48 = .ok (.iload 5, 2) := by decide +kernel
theorem dX11_findWay_50 : decode cX11_findWay 50 = .ok (.goto 5, 3) := by decide +kernel
theorem dX11_findWay_53 : decode cX11_findWay 53 = .ok (.ldc 180, 2) := by decide +kernel
theorem dX11_findWay_55 : decode cX11_findWay 55 = .ok (.iastore, 1) := by decide +kernel
theorem dX11_findWay_56 : decode cX11_findWay 56 = .ok (.iinc 4 1, 3) := by decide +kernel
theorem dX11_findWay_59 : decode cX11_findWay 59 = .ok (.goto (-48), 3) := by decide +kernel
theorem dX11_findWay_62 : decode cX11_findWay 62 = .ok (.iinc 3 1, 3) := by decide +kernel
theorem dX11_findWay_65 : decode cX11_findWay 65 = .ok (.goto (-63), 3) := by decide +kernel
theorem dX11_findWay_68 : decode cX11_findWay 68 = .ok (.iconst 0, 1) := by decide +kernel
theorem dX11_findWay_69 : decode cX11_findWay 69 = .ok (.istore_n 3, 1) := by decide +kernel
theorem dX11_findWay_70 : decode cX11_findWay 70 = .ok (.iload_n 3, 1) := by decide +kernel
theorem dX11_findWay_71 : decode cX11_findWay 71 = .ok (.bipush 100, 2) := by decide +kernel
theorem dX11_findWay_73 : decode cX11_findWay 73 = .ok (.if_icmp .ge 26, 3) := by decide +kernel
theorem dX11_findWay_76 : decode cX11_findWay 76 = .ok (.aload_n 0, 1) := by decide +kernel
theorem dX11_findWay_77 : decode cX11_findWay 77 = .ok (.getfield 99, 3) := by decide +kernel
theorem dX11_findWay_80 : decode cX11_findWay 80 = .ok (.iload_n 3, 1) := by decide +kernel
theorem dX11_findWay_81 : decode cX11_findWay 81 = .ok (.iload_n 3, 1) := by decide +kernel
theorem dX11_findWay_82 : decode cX11_findWay 82 = .ok (.iload_n 1, 1) := by decide +kernel
theorem dX11_findWay_83 : decode cX11_findWay 83 = .ok (.if_icmp .ne 7, 3) := by decide +kernel
theorem dX11_findWay_86 : decode cX11_findWay 86 = .ok (.iconst 0, 1) := by decide +kernel
theorem dX11_findWay_87 : decode cX11_findWay 87 = .ok (.goto 5, 3) := by decide +kernel
theorem dX11_findWay_90 : decode cX11_findWay 90 = .ok (.ldc 180, 2) := by decide +kernel
theorem dX11_findWay_92 : decode cX11_findWay 92 = .ok (.iastore, 1) := by decide +kernel
theorem dX11_findWay_93 : decode cX11_findWay 93 = .ok (.iinc 3 1, 3) := by decide +kernel
theorem dX11_findWay_96 : decode cX11_findWay 96 = .ok (.goto (-26), 3) := by decide +kernel
theorem dX11_findWay_99 : decode cX11_findWay 99 = .ok (.aload_n 0, 1) := by decide +kernel
theorem dX11_findWay_100 : decode cX11_findWay 100 = .ok (.getfield 102, 3) := by decide +kernel
theorem dX11_findWay_103 : decode cX11_findWay 103 = .ok (.bipush 10, 2) := by decide +kernel
theorem dX11_findWay_105 : decode cX11_findWay 105 = .ok (.iload_n 1, 1) := by decide +kernel
theorem dX11_findWay_106 : decode cX11_findWay 106 = .ok (.imul, 1) := by decide +kernel
theorem dX11_findWay_107 : decode cX11_findWay 107 = .ok (.iload_n 1, 1) := by decide +kernel
theorem dX11_findWay_108 : decode cX11_findWay 108 = .ok (.iastore, 1) := by decide +kernel
theorem dX11_findWay_109 : decode cX11_findWay 109 = .ok (.iconst 1, 1) := by decide +kernel
theorem dX11_findWay_110 : decode cX11_findWay 110 = .ok (.istore_n 3, 1) := by decide +kernel
theorem dX11_findWay_111 : decode cX11_findWay 111 = .ok (.iload_n 3, 1) := by decide +kernel
theorem dX11_findWay_112 : decode cX11_findWay 112 = .ok (.bipush 10, 2) := by decide +kernel
theorem dX11_findWay_114 : decode cX11_findWay 114 = .ok (.if_icmp .ge 197, 3) := by decide +kernel
theorem dX11_findWay_117 : decode cX11_findWay 117 = .ok (.iconst 0, 1) := by decide +kernel
theorem dX11_findWay_118 : decode cX11_findWay 118 = .ok (.istore 4, 2) := by decide +kernel
theorem dX11_findWay_120 : decode cX11_findWay 120 = .ok (.iload 4, 2) := by decide +kernel
theorem dX11_findWay_122 : decode cX11_findWay 122 = .ok (.bipush 10, 2) := by decide +kernel
theorem dX11_findWay_124 : decode cX11_findWay 124 = .ok (.if_icmp .ge 181, 3) := by decide +kernel
theorem dX11_findWay_127 : decode cX11_findWay 127 = .ok (.iconst 0, 1) := by decide +kernel
theorem dX11_findWay_128 : decode cX11_findWay 128 = .ok (.istore 5, 2) := by decide +kernel
theorem dX11_findWay_130 : decode cX11_findWay 130 = .ok (.iload 5, 2) := by decide +kernel
theorem dX11_findWay_132 : decode cX11_findWay 132 = .ok (.bipush 10, 2) := by decide +kernel
theorem dX11_findWay_134 : decode cX11_findWay 134 = .ok (.if_icmp .ge 165, 3) := by decide +kernel
theorem dX11_findWay_137 : decode cX11_findWay 137 = .ok (.bipush 10, 2) := by decide +kernel
theorem dX11_findWay_139 : decode cX11_findWay 139 = .ok (.iload_n 3, 1) := by decide +kernel
theorem dX11_findWay_140 : decode cX11_findWay 140 = .ok (.iconst 1, 1) := by decide +kernel
theorem dX11_findWay_141 : decode cX11_findWay 141 = .ok (.isub, 1) := by decide +kernel
theorem dX11_findWay_142 : decode cX11_findWay 142 = .ok (.imul, 1) := by decide +kernel
theorem dX11_findWay_143 : decode cX11_findWay 143 = .ok (.iload 4, 2) := by decide +kernel
theorem dX11_findWay_145 : decode cX11_findWay 145 = .ok (.iadd, 1) := by decide +kernel
theorem dX11_findWay_146 : decode cX11_findWay 146 = .ok (.istore 6, 2) := by decide +kernel
theorem dX11_findWay_148 : decode cX11_findWay 148 = .ok (.bipush 10, 2) := by decide +kernel
theorem dX11_findWay_150 : decode cX11_findWay 150 = .ok (.iload_n 3, 1) := by decide +kernel
theorem dX11_findWay_151 : decode cX11_findWay 151 = .ok (.imul, 1) := by decide +kernel
theorem dX11_findWay_152 : decode cX11_findWay 152 = .ok (.iload 5, 2) := by decide +kernel
theorem dX11_findWay_154 : decode cX11_findWay 154 = .ok (.iadd, 1) := by decide +kernel
theorem dX11_findWay_155 : decode cX11_findWay 155 = .ok (.istore 7, 2) := by decide +kernel
theorem dX11_findWay_157 : decode cX11_findWay 157 = .ok (.aload_n 0, 1) := by decide +kernel
theorem dX11_findWay_158 : decode cX11_findWay 158 = .ok (.getfield 99, 3) := by decide +kernel
theorem dX11_findWay_161 : decode cX11_findWay 161 = .ok (.iload 6, 2) := by decide +kernel
theorem dX11_findWay_163 : decode cX11_findWay 163 = .ok (.iaload, 1) := by decide +kernel
theorem dX11_findWay_164 : decode cX11_findWay 164 = .ok (.aload_n 0, 1) := by decide +kernel
theorem dX11_findWay_165 : decode cX11_findWay 165 = .ok (.getfield 105, 3) := by decide +kernel
theorem dX11_findWay_168 : decode cX11_findWay 168 = .ok (.bipush 10, 2) := by decide +kernel
theorem dX11_findWay_170 : decode cX11_findWay 170 = .ok (.iload 4, 2) := by decide +kernel
theorem dX11_findWay_172 : decode cX11_findWay 172 = .ok (.imul, 1) := by decide +kernel
theorem dX11_findWay_173 : decode cX11_findWay 173 = .ok (.iload 5, 2) := by decide +kernel
theorem dX11_findWay_175 : decode cX11_findWay 175 = .ok (.iadd, 1) := by decide +kernel
theorem dX11_findWay_176 : decode cX11_findWay 176 = .ok (.iaload, 1) := by decide +kernel
theorem dX11_findWay_177 : decode cX11_findWay 177 = .ok (.iadd, 1) := by decide +kernel
theorem dX11_findWay_178 : decode cX11_findWay 178 = .ok (.istore 8, 2) := by decide +kernel
theorem dX11_findWay_180 : decode cX11_findWay 180 = .ok (.iload 8, 2) := by decide +kernel
theorem dX11_findWay_182 : decode cX11_findWay 182 = .ok (.ldc 180, 2) := by decide +kernel
theorem dX11_findWay_184 : decode cX11_findWay 184 = .ok (.if_icmp .ge 109, 3) := by decide +kernel
theorem dX11_findWay_187 : decode cX11_findWay 187 = .ok (.iload 8, 2) := by decide +kernel
theorem dX11_findWay_189 : decode cX11_findWay 189 = .ok (.aload_n 0, 1) := by decide +kernel
theorem dX11_findWay_190 : decode cX11_findWay 190 = .ok (.getfield 99, 3) := by decide +kernel
theorem dX11_findWay_193 : decode cX11_findWay 193 = .ok (.iload 7, 2) := by decide +kernel
theorem dX11_findWay_195 : decode cX11_findWay 195 = .ok (.iaload, 1) := by decide +kernel
theorem dX11_findWay_196 : decode cX11_findWay 196 = .ok (.if_icmp .lt 33, 3) := by decide +kernel
theorem dX11_findWay_199 : decode cX11_findWay 199 = .ok (.iload 8, 2) := by decide +kernel
theorem dX11_findWay_201 : decode cX11_findWay 201 = .ok (.aload_n 0, 1) := by decide +kernel
theorem dX11_findWay_202 : decode cX11_findWay 202 = .ok (.getfield 99, 3) := by decide +kernel
theorem dX11_findWay_205 : decode cX11_findWay 205 = .ok (.iload 7, 2) := by decide +kernel
theorem dX11_findWay_207 : decode cX11_findWay 207 = .ok (.iaload, 1) := by decide +kernel
theorem dX11_findWay_208 : decode cX11_findWay 208 = .ok (.if_icmp .ne 85, 3) := by decide +kernel
theorem dX11_findWay_211 : decode cX11_findWay 211 = .ok (.aload_n 0, 1) := by decide +kernel
theorem dX11_findWay_212 : decode cX11_findWay 212 = .ok (.bipush 10, 2) := by decide +kernel
theorem dX11_findWay_214 : decode cX11_findWay 214 = .ok (.iload 6, 2) := by decide +kernel
theorem dX11_findWay_216 : decode cX11_findWay 216 = .ok (.imul, 1) := by decide +kernel
theorem dX11_findWay_217 : decode cX11_findWay 217 = .ok (.bipush 10, 2) := by decide +kernel
theorem dX11_findWay_219 : decode cX11_findWay 219 = .ok (.iload 7, 2) := by decide +kernel
theorem dX11_findWay_221 : decode cX11_findWay 221 = .ok (.imul, 1) := by decide +kernel
theorem dX11_findWay_222 : decode cX11_findWay 222 = .ok (.iload_n 3, 1) := by decide +kernel
theorem dX11_findWay_223 : decode cX11_findWay 223 = .ok (.invokevirtual 272, 3) := by decide +kernel
theorem dX11_findWay_226 : decode cX11_findWay 226 = .ok (.ifCond .eq 67, 3) := by decide +kernel
theorem dX11_findWay_229 : decode cX11_findWay 229 = .ok (.aload_n 0, 1) := by decide +kernel
theorem dX11_findWay_230 : decode cX11_findWay 230 = .ok (.getfield 99, 3) := by decide +kernel
theorem dX11_findWay_233 : decode cX11_findWay 233 = .ok (.iload 7, 2) := by decide +kernel
theorem dX11_findWay_235 : decode cX11_findWay 235 = .ok (.iload 8, 2) := by decide +kernel
theorem dX11_findWay_237 : decode cX11_findWay 237 = .ok (.iastore, 1) := by decide +kernel
theorem dX11_findWay_238 : decode cX11_findWay 238 = .ok (.iconst 0, 1) := by decide +kernel
theorem dX11_findWay_239 : decode cX11_findWay 239 = .ok (.istore 9, 2) := by decide +kernel
theorem dX11_findWay_241 : decode cX11_findWay 241 = .ok (.iload 9, 2) := by decide +kernel
theorem dX11_findWay_243 : decode cX11_findWay 243 = .ok (.iload_n 3, 1) := by decide +kernel
theorem dX11_findWay_244 : decode cX11_findWay 244 = .ok (.if_icmp .ge 35, 3) := by decide +kernel
theorem dX11_findWay_247 : decode cX11_findWay 247 = .ok (.aload_n 0, 1) := by decide +kernel
theorem dX11_findWay_248 : decode cX11_findWay 248 = .ok (.getfield 102, 3) := by decide +kernel
theorem dX11_findWay_251 : decode cX11_findWay 251 = .ok (.bipush 10, 2) := by decide +kernel
theorem dX11_findWay_253 : decode cX11_findWay 253 = .ok (.iload 7, 2) := by decide +kernel
theorem dX11_findWay_255 : decode cX11_findWay 255 = .ok (.imul, 1) := by decide +kernel
theorem dX11_findWay_256 : decode cX11_findWay 256 = .ok (.iload 9, 2) := by decide +kernel
theorem dX11_findWay_258 : decode cX11_findWay 258 = .ok (.iadd, 1) := by decide +kernel
theorem dX11_findWay_259 : decode cX11_findWay 259 = .ok (.aload_n 0, 1) := by decide +kernel
theorem dX11_findWay_260 : decode cX11_findWay 260 = .ok (.getfield 102, 3) := by decide +kernel
theorem dX11_findWay_263 : decode cX11_findWay 263 = .ok (.bipush 10, 2) := by decide +kernel
theorem dX11_findWay_265 : decode cX11_findWay 265 = .ok (.iload 6, 2) := by decide +kernel
theorem dX11_findWay_267 : decode cX11_findWay 267 = .ok (.imul, 1) := by decide +kernel
theorem dX11_findWay_268 : decode cX11_findWay 268 = .ok (.iload 9, 2) := by decide +kernel
theorem dX11_findWay_270 : decode cX11_findWay 270 = .ok (.iadd, 1) := by decide +kernel
theorem dX11_findWay_271 : decode cX11_findWay 271 = .ok (.iaload, 1) := by decide +kernel
theorem dX11_findWay_272 : decode cX11_findWay 272 = .ok (.iastore, 1) := by decide +kernel
theorem dX11_findWay_273 : decode cX11_findWay 273 = .ok (.iinc 9 1, 3) := by decide +kernel
theorem dX11_findWay_276 : decode cX11_findWay 276 = .ok (.goto (-35), 3) := by decide +kernel
theorem dX11_findWay_279 : decode cX11_findWay 279 = .ok (.aload_n 0, 1) := by decide +kernel
theorem dX11_findWay_280 : decode cX11_findWay 280 = .ok (.getfield 102, 3) := by decide +kernel
theorem dX11_findWay_283 : decode cX11_findWay 283 = .ok (.bipush 10, 2) := by decide +kernel
theorem dX11_findWay_285 : decode cX11_findWay 285 = .ok (.iload 7, 2) := by decide +kernel
theorem dX11_findWay_287 : decode cX11_findWay 287 = .ok (.imul, 1) := by decide +kernel
theorem dX11_findWay_288 : decode cX11_findWay 288 = .ok (.iload_n 3, 1) := by decide +kernel
theorem dX11_findWay_289 : decode cX11_findWay 289 = .ok (.iadd, 1) := by decide +kernel
theorem dX11_findWay_290 : decode cX11_findWay 290 = .ok (.iload 5, 2) := by decide +kernel
theorem dX11_findWay_292 : decode cX11_findWay 292 = .ok (.iastore, 1) := by decide +kernel
theorem dX11_findWay_293 : decode cX11_findWay 293 = .ok (.iinc 5 1, 3) := by decide +kernel
theorem dX11_findWay_296 : decode cX11_findWay 296 = .ok (.goto (-166), 3) := by decide +kernel
theorem dX11_findWay_299 : decode cX11_findWay 299 = .ok (.iinc 4 1, 3) := by decide +kernel
theorem dX11_findWay_302 : decode cX11_findWay 302 = .ok (.goto (-182), 3) := by decide +kernel
theorem dX11_findWay_305 : decode cX11_findWay 305 = .ok (.iinc 3 1, 3) := by decide +kernel
theorem dX11_findWay_308 : decode cX11_findWay 308 = .ok (.goto (-197), 3) := by decide +kernel
theorem dX11_findWay_311 : decode cX11_findWay 311 = .ok (.iconst 0, 1) := by decide +kernel
theorem dX11_findWay_312 : decode cX11_findWay 312 = .ok (.istore_n 3, 1) := by decide +kernel
theorem dX11_findWay_313 : decode cX11_findWay 313 = .ok (.iconst 1, 1) := by decide +kernel
theorem dX11_findWay_314 : decode cX11_findWay 314 = .ok (.istore 4, 2) := by decide +kernel
theorem dX11_findWay_316 : decode cX11_findWay 316 = .ok (.iload 4, 2) := by decide +kernel
theorem dX11_findWay_318 : decode cX11_findWay 318 = .ok (.bipush 10, 2) := by decide +kernel
theorem dX11_findWay_320 : decode cX11_findWay 320 = .ok (.if_icmp .ge 42, 3) := by decide +kernel
theorem dX11_findWay_323 : decode cX11_findWay 323 = .ok (.aload_n 0, 1) := by decide +kernel
theorem dX11_findWay_324 : decode cX11_findWay 324 = .ok (.getfield 99, 3) := by decide +kernel
theorem dX11_findWay_327 : decode cX11_findWay 327 = .ok (.bipush 10, 2) := by decide +kernel
theorem dX11_findWay_329 : decode cX11_findWay 329 = .ok (.iload 4, 2) := by decide +kernel
theorem dX11_findWay_331 : decode cX11_findWay 331 = .ok (.imul, 1) := by decide +kernel
theorem dX11_findWay_332 : decode cX11_findWay 332 = .ok (.iload_n 2, 1) := by decide +kernel
theorem dX11_findWay_333 : decode cX11_findWay 333 = .ok (.iadd, 1) := by decide +kernel
theorem dX11_findWay_334 : decode cX11_findWay 334 = .ok (.iaload, 1) := by decide +kernel
theorem dX11_findWay_335 : decode cX11_findWay 335 = .ok (.aload_n 0, 1) := by decide +kernel
theorem dX11_findWay_336 : decode cX11_findWay 336 = .ok (.getfield 99, 3) := by decide +kernel
theorem dX11_findWay_339 : decode cX11_findWay 339 = .ok (.bipush 10, 2) := by decide +kernel
theorem dX11_findWay_341 : decode cX11_findWay 341 = .ok (.iload_n 3, 1) := by decide +kernel
theorem dX11_findWay_342 : decode cX11_findWay 342 = .ok (.imul, 1) := by decide +kernel
theorem dX11_findWay_343 : decode cX11_findWay 343 = .ok (.iload_n 2, 1) := by decide +kernel
theorem dX11_findWay_344 : decode cX11_findWay 344 = .ok (.iadd, 1) := by decide +kernel
theorem dX11_findWay_345 : decode cX11_findWay 345 = .ok (.iaload, 1) := by decide +kernel
theorem dX11_findWay_346 : decode cX11_findWay 346 = .ok (.if_icmp .ge 8, 3) := by decide +kernel
theorem dX11_findWay_349 : decode cX11_findWay 349 = .ok (.iload 4, 2) := by decide +kernel
theorem dX11_findWay_351 : decode cX11_findWay 351 = .ok (.goto 4, 3) := by decide +kernel
theorem dX11_findWay_354 : decode cX11_findWay 354 = .ok (.iload_n 3, 1) := by decide +kernel
theorem dX11_findWay_355 : decode cX11_findWay 355 = .ok (.istore_n 3, 1) := by decide +kernel
theorem dX11_findWay_356 : decode cX11_findWay 356 = .ok (.iinc 4 1, 3) := by decide +kernel
theorem dX11_findWay_359 : decode cX11_findWay 359 = .ok (.goto (-43), 3) := by decide +kernel
theorem dX11_findWay_362 : decode cX11_findWay 362 = .ok (.aload_n 0, 1) := by decide +kernel
theorem dX11_findWay_363 : decode cX11_findWay 363 = .ok (.iload_n 3, 1) := by decide +kernel
theorem dX11_findWay_364 : decode cX11_findWay 364 = .ok (.iconst 1, 1) := by decide +kernel
theorem dX11_findWay_365 : decode cX11_findWay 365 = .ok (.iadd, 1) := by decide +kernel
theorem dX11_findWay_366 : decode cX11_findWay 366 = .ok (.putfield 276, 3) := by decide +kernel
theorem dX11_findWay_369 : decode cX11_findWay 369 = .ok (.iconst 0, 1) := by decide +kernel
theorem dX11_findWay_370 : decode cX11_findWay 370 = .ok (.istore 4, 2) := by decide +kernel
theorem dX11_findWay_372 : decode cX11_findWay 372 = .ok (.iload 4, 2) := by decide +kernel
theorem dX11_findWay_374 : decode cX11_findWay 374 = .ok (.aload_n 0, 1) := by decide +kernel
theorem dX11_findWay_375 : decode cX11_findWay 375 = .ok (.getfield 276, 3) := by decide +kernel
theorem dX11_findWay_378 : decode cX11_findWay 378 = .ok (.if_icmp .ge 33, 3) := by decide +kernel
theorem dX11_findWay_381 : decode cX11_findWay 381 = .ok (.aload_n 0, 1) := by decide +kernel
theorem dX11_findWay_382 : decode cX11_findWay 382 = .ok (.getfield 108, 3) := by decide +kernel
theorem dX11_findWay_385 : decode cX11_findWay 385 = .ok (.iload 4, 2) := by decide +kernel
theorem dX11_findWay_387 : decode cX11_findWay 387 = .ok (.aload_n 0, 1) := by decide +kernel
theorem dX11_findWay_388 : decode cX11_findWay 388 = .ok (.getfield 102, 3) := by decide +kernel
theorem dX11_findWay_391 : decode cX11_findWay 391 = .ok (.bipush 10, 2) := by decide +kernel
theorem dX11_findWay_393 : decode cX11_findWay 393 = .ok (.bipush 10, 2) := by decide +kernel
theorem dX11_findWay_395 : decode cX11_findWay 395 = .ok (.iload_n 3, 1) := by decide +kernel
theorem dX11_findWay_396 : decode cX11_findWay 396 = .ok (.imul, 1) := by decide +kernel
theorem dX11_findWay_397 : decode cX11_findWay 397 = .ok (.iload_n 2, 1) := by decide +kernel
theorem dX11_findWay_398 : decode cX11_findWay 398 = .ok (.iadd, 1) := by decide +kernel
theorem dX11_findWay_399 : decode cX11_findWay 399 = .ok (.imul, 1) := by decide +kernel
theorem dX11_findWay_400 : decode cX11_findWay 400 = .ok (.iload 4, 2) := by decide +kernel
theorem dX11_findWay_402 : decode cX11_findWay 402 = .ok (.iadd, 1) := by decide +kernel
theorem dX11_findWay_403 : decode cX11_findWay 403 = .ok (.iaload, 1) := by decide +kernel
theorem dX11_findWay_404 : decode cX11_findWay 404 = .ok (.iastore, 1) := by decide +kernel
theorem dX11_findWay_405 : decode cX11_findWay 405 = .ok (.iinc 4 1, 3) := by decide +kernel
theorem dX11_findWay_408 : decode cX11_findWay 408 = .ok (.goto (-36), 3) := by decide +kernel
theorem dX11_findWay_411 : decode cX11_findWay 411 = .ok (.aload_n 0, 1) := by decide +kernel
theorem dX11_findWay_412 : decode cX11_findWay 412 = .ok (.getfield 99, 3) := by decide +kernel
theorem dX11_findWay_415 : decode cX11_findWay 415 = .ok (.bipush 10, 2) := by decide +kernel
theorem dX11_findWay_417 : decode cX11_findWay 417 = .ok (.iload_n 3, 1) := by decide +kernel
theorem dX11_findWay_418 : decode cX11_findWay 418 = .ok (.imul, 1) := by decide +kernel
theorem dX11_findWay_419 : decode cX11_findWay 419 = .ok (.iload_n 2, 1) := by decide +kernel
theorem dX11_findWay_420 : decode cX11_findWay 420 = .ok (.iadd, 1) := by decide +kernel
theorem dX11_findWay_421 : decode cX11_findWay 421 = .ok (.iaload, 1) := by decide +kernel
theorem dX11_findWay_422 : decode cX11_findWay 422 = .ok (.ireturn, 1) := by decide +kernel
theorem dX11_way_0 : decode cX11_way 0 = .ok (.aload_n 0, 1) := by decide +kernel
theorem dX11_way_1 : decode cX11_way 1 = .ok (.iconst 0, 1) := by decide +kernel
theorem dX11_way_2 : decode cX11_way 2 = .ok (.putfield 131, 3) := by decide +kernel
theorem dX11_way_5 : decode cX11_way 5 = .ok (.iload_n 1, 1) := by decide +kernel
theorem dX11_way_6 : decode cX11_way 6 = .ok (.i2l, 1) := by decide +kernel
theorem dX11_way_7 : decode cX11_way 7 = .ok (.lconst 0, 1) := by decide +kernel
theorem dX11_way_8 : decode cX11_way 8 = .ok (.ldc2_w 221, 3) := by decide +kernel
theorem dX11_way_11 : decode cX11_way 11 = .ok (.invokestatic 138, 3) := by decide +kernel
theorem dX11_way_14 : decode cX11_way 14 = .ok (.ifCond .eq 19, 3) := by decide +kernel
theorem dX11_way_17 : decode cX11_way 17 = .ok (.iload_n 2, 1) := by decide +kernel
theorem dX11_way_18 : decode cX11_way 18 = .ok (.i2l, 1) := by decide +kernel
theorem dX11_way_19 : decode cX11_way 19 = .ok (.lconst 0, 1) := by decide +kernel
theorem dX11_way_20 : decode cX11_way 20 = .ok (.ldc2_w 221, 3) := by decide +kernel
theorem dX11_way_23 : decode cX11_way 23 = .ok (.invokestatic 138, 3) := by decide +kernel
theorem dX11_way_26 : decode cX11_way 26 = .ok (.ifCond .eq 7, 3) := by decide +kernel
theorem dX11_way_29 : decode cX11_way 29 = .ok (.iload_n 3, 1) := by decide +kernel
theorem dX11_way_30 : decode cX11_way 30 = .ok (.ifCond .ge 6, 3) := by decide +kernel
theorem dX11_way_33 : decode cX11_way 33 = .ok (.bipush (-3), 2) := by decide +kernel
theorem dX11_way_35 : decode cX11_way 35 = .ok (.ireturn, 1) := by decide +kernel
theorem dX11_way_36 : decode cX11_way 36 = .ok (.aload_n 0, 1) := by decide +kernel
theorem dX11_way_37 : decode cX11_way 37 = .ok (.invokevirtual 189, 3) := by decide +kernel
theorem dX11_way_40 : decode cX11_way 40 = .ok (.aload_n 0, 1) := by decide +kernel
theorem dX11_way_41 : decode cX11_way 41 = .ok (.iload_n 1, 1) := by decide +kernel
theorem dX11_way_42 : decode cX11_way 42 = .ok (.iload_n 2, 1) := by decide +kernel
theorem dX11_way_43 : decode cX11_way 43 = .ok (.invokevirtual 279, 3) := by decide +kernel
theorem dX11_way_46 : decode cX11_way 46 = .ok (.istore 4, 2) := by decide +kernel
theorem dX11_way_48 : decode cX11_way 48 = .ok (.iload 4, 2) := by decide +kernel
theorem dX11_way_50 : decode cX11_way 50 = .ok (.ldc 180, 2) := by decide +kernel
theorem dX11_way_52 : decode cX11_way 52 = .ok (.if_icmp .lt 5, 3) := by decide +kernel
theorem dX11_way_55 : decode cX11_way 55 = .ok (.iconst (-1), 1) := by decide +kernel
theorem dX11_way_56 : decode cX11_way 56 = .ok (.ireturn, 1) := by decide +kernel
theorem dX11_way_57 : decode cX11_way 57 = .ok (.iload_n 3, 1) := by decide +kernel
theorem dX11_way_58 : decode cX11_way 58 = .ok (.ifCond .ne 8, 3) := by decide +kernel
theorem dX11_way_61 : decode cX11_way 61 = .ok (.iload 4, 2) := by decide +kernel
theorem dX11_way_63 : decode cX11_way 63 = .ok (.goto 37, 3) := by decide +kernel
theorem dX11_way_66 : decode cX11_way 66 = .ok (.iload_n 3, 1) := by decide +kernel
theorem dX11_way_67 : decode cX11_way 67 = .ok (.iconst 1, 1) := by decide +kernel
theorem dX11_way_68 : decode cX11_way 68 = .ok (.if_icmp .ne 10, 3) := by decide +kernel
theorem dX11_way_71 : decode cX11_way 71 = .ok (.aload_n 0, 1) := by decide +kernel
theorem dX11_way_72 : decode cX11_way 72 = .ok (.getfield 276, 3) := by decide +kernel
theorem dX11_way_75 : decode cX11_way 75 = .ok (.goto 25, 3) := by decide +kernel
theorem dX11_way_78 : decode cX11_way 78 = .ok (.iload_n 3, 1) := by decide +kernel
theorem dX11_way_79 : decode cX11_way 79 = .ok (.iconst 2, 1) := by decide +kernel
theorem dX11_way_80 : decode cX11_way 80 = .ok (.isub, 1) := by decide +kernel
theorem dX11_way_81 : decode cX11_way 81 = .ok (.aload_n 0, 1) := by decide +kernel
theorem dX11_way_82 : decode cX11_way 82 = .ok (.getfield 276, 3) := by decide +kernel
theorem dX11_way_85 : decode cX11_way 85 = .ok (.if_icmp .ge 14, 3) := by decide +kernel
theorem dX11_way_88 : decode cX11_way 88 = .ok (.aload_n 0, 1) := by decide +kernel
theorem dX11_way_89 : decode cX11_way 89 = .ok (.getfield 108, 3) := by decide +kernel
theorem dX11_way_92 : decode cX11_way 92 = .ok (.iload_n 3, 1) := by decide +kernel
theorem dX11_way_93 : decode cX11_way 93 = .ok (.iconst 2, 1) := by decide +kernel
theorem dX11_way_94 : decode cX11_way 94 = .ok (.isub, 1) := by decide +kernel
theorem dX11_way_95 : decode cX11_way 95 = .ok (.iaload, 1) := by decide +kernel
theorem dX11_way_96 : decode cX11_way 96 = .ok (.goto 4, 3) := by decide +kernel
theorem dX11_way_99 : decode cX11_way 99 = .ok (.iconst (-1), 1) := by decide +kernel
theorem dX11_way_100 : decode cX11_way 100 = .ok (.ireturn, 1) := by decide +kernel
theorem dX11_object_0 : decode cX11_object 0 = .ok (.aload_n 0, 1) := by decide +kernel
theorem dX11_object_1 : decode cX11_object 1 = .ok (.iconst 0, 1) := by decide +kernel
theorem dX11_object_2 : decode cX11_object 2 = .ok (.putfield 131, 3) := by decide +kernel
theorem dX11_object_5 : decode cX11_object 5 = .ok (.iload_n 1, 1) := by decide +kernel
theorem dX11_object_6 : decode cX11_object 6 = .ok (.i2l, 1) := by decide +kernel
theorem dX11_object_7 : decode cX11_object 7 = .ok (.lconst 0, 1) := by decide +kernel
theorem dX11_object_8 : decode cX11_object 8 = .ok (.ldc2_w 221, 3) := by decide +kernel
theorem dX11_object_11 : decode cX11_object 11 = .ok (.invokestatic 138, 3) := by decide +kernel
theorem dX11_object_14 : decode cX11_object 14 = .ok (.ifCond .ne 6, 3) := by decide +kernel
theorem dX11_object_17 : decode cX11_object 17 = .ok (.bipush (-3), 2) := by decide +kernel
theorem dX11_object_19 : decode cX11_object 19 = .ok (.ireturn, 1) := by decide +kernel
theorem dX11_object_20 : decode cX11_object 20 = .ok (.aload_n 0, 1) := by decide +kernel
theorem dX11_object_21 : decode cX11_object 21 = .ok (.getfield 282, 3) := by decide +kernel
theorem dX11_object_24 : decode cX11_object 24 = .ok (.bipush 20, 2) := by decide +kernel
theorem dX11_object_26 : decode cX11_object 26 = .ok (.if_icmp .ne 6, 3) := by decide +kernel
theorem dX11_object_29 : decode cX11_object 29 = .ok (.bipush (-5), 2) := by decide +kernel
theorem dX11_object_31 : decode cX11_object 31 = .ok (.ireturn, 1) := by decide +kernel
theorem dX11_object_32 : decode cX11_object 32 = .ok (.aload_n 0, 1) := by decide +kernel
theorem dX11_object_33 : decode cX11_object 33 = .ok (.getfield 66, 3) := by decide +kernel
theorem dX11_object_36 : decode cX11_object 36 = .ok (.aload_n 0, 1) := by decide +kernel
theorem dX11_object_37 : decode cX11_object 37 = .ok (.getfield 282, 3) := by decide +kernel
theorem dX11_object_40 : decode cX11_object 40 = .ok (.iload_n 1, 1) := by decide +kernel
theorem dX11_object_41 : decode cX11_object 41 = .ok (.iastore, 1) := by decide +kernel
theorem dX11_object_42 : decode cX11_object 42 = .ok (.aload_n 0, 1) := by decide +kernel
theorem dX11_object_43 : decode cX11_object 43 = .ok (.dup, 1) := by decide +kernel
theorem dX11_object_44 : decode cX11_object 44 = .ok (.getfield 282, 3) := by decide +kernel
theorem dX11_object_47 : decode cX11_object 47 = .ok (.iconst 1, 1) := by decide +kernel
theorem dX11_object_48 : decode cX11_object 48 = .ok (.iadd, 1) := by decide +kernel
theorem dX11_object_49 : decode cX11_object 49 = .ok (.putfield 282, 3) := by decide +kernel
theorem dX11_object_52 : decode cX11_object 52 = .ok (.aload_n 0, 1) := by decide +kernel
theorem dX11_object_53 : decode cX11_object 53 = .ok (.getfield 282, 3) := by decide +kernel
theorem dX11_object_56 : decode cX11_object 56 = .ok (.iconst 1, 1) := by decide +kernel
theorem dX11_object_57 : decode cX11_object 57 = .ok (.isub, 1) := by decide +kernel
theorem dX11_object_58 : decode cX11_object 58 = .ok (.ireturn, 1) := by decide +kernel
theorem dX11_put_0 : decode cX11_put 0 = .ok (.aload_n 0, 1) := by decide +kernel
theorem dX11_put_1 : decode cX11_put 1 = .ok (.iconst 0, 1) := by decide +kernel
theorem dX11_put_2 : decode cX11_put 2 = .ok (.putfield 131, 3) := by decide +kernel
theorem dX11_put_5 : decode cX11_put 5 = .ok (.iload_n 1, 1) := by decide +kernel
theorem dX11_put_6 : decode cX11_put 6 = .ok (.i2l, 1) := by decide +kernel
theorem dX11_put_7 : decode cX11_put 7 = .ok (.lconst 0, 1) := by decide +kernel
theorem dX11_put_8 : decode cX11_put 8 = .ok (.aload_n 0, 1) := by decide +kernel
theorem dX11_put_9 : decode cX11_put 9 = .ok (.getfield 282, 3) := by decide +kernel
theorem dX11_put_12 : decode cX11_put 12 = .ok (.iconst 1, 1) := by decide +kernel
theorem dX11_put_13 : decode cX11_put 13 = .ok (.isub, 1) := by decide +kernel
theorem dX11_put_14 : decode cX11_put 14 = .ok (.i2l, 1) := by decide +kernel
theorem dX11_put_15 : decode cX11_put 15 = .ok (.invokestatic 138, 3) := by decide +kernel
theorem dX11_put_18 : decode cX11_put 18 = .ok (.ifCond .ne 6, 3) := by decide +kernel
theorem dX11_put_21 : decode cX11_put 21 = .ok (.bipush (-2), 2) := by decide +kernel
theorem dX11_put_23 : decode cX11_put 23 = .ok (.ireturn, 1) := by decide +kernel
theorem dX11_put_24 : decode cX11_put 24 = .ok (.iload_n 2, 1) := by decide +kernel
theorem dX11_put_25 : decode cX11_put 25 = .ok (.i2l, 1) := by decide +kernel
theorem dX11_put_26 : decode cX11_put 26 = .ok (.lconst 0, 1) := by decide +kernel
theorem dX11_put_27 : decode cX11_put 27 = .ok (.ldc2_w 227, 3) := by decide +kernel
theorem dX11_put_30 : decode cX11_put 30 = .ok (.invokestatic 138, 3) := by decide +kernel
theorem dX11_put_33 : decode cX11_put 33 = .ok (.ifCond .ne 6, 3) := by decide +kernel
theorem dX11_put_36 : decode cX11_put 36 = .ok (.bipush (-3), 2) := by decide +kernel
theorem dX11_put_38 : decode cX11_put 38 = .ok (.ireturn, 1) := by decide +kernel
theorem dX11_put_39 : decode cX11_put 39 = .ok (.aload_n 0, 1) := by decide +kernel
theorem dX11_put_40 : decode cX11_put 40 = .ok (.getfield 69, 3) := by decide +kernel
theorem dX11_put_43 : decode cX11_put 43 = .ok (.iconst 3, 1) := by decide +kernel
theorem dX11_put_44 : decode cX11_put 44 = .ok (.iload_n 1, 1) := by decide +kernel
theorem dX11_put_45 : decode cX11_put 45 = .ok (.imul, 1) := by decide +kernel
theorem dX11_put_46 : decode cX11_put 46 = .ok (.iload_n 2, 1) := by decide +kernel
theorem dX11_put_47 : decode cX11_put 47 = .ok (.iadd, 1) := by decide +kernel
theorem dX11_put_48 : decode cX11_put 48 = .ok (.lload_n 3, 1) := by decide +kernel
theorem dX11_put_49 : decode cX11_put 49 = .ok (.lastore, 1) := by decide +kernel
theorem dX11_put_50 : decode cX11_put 50 = .ok (.iconst 0, 1) := by decide +kernel
theorem dX11_put_51 : decode cX11_put 51 = .ok (.ireturn, 1) := by decide +kernel
theorem dX11_field_0 : decode cX11_field 0 = .ok (.aload_n 0, 1) := by decide +kernel
theorem dX11_field_1 : decode cX11_field 1 = .ok (.iconst 0, 1) := by decide +kernel
theorem dX11_field_2 : decode cX11_field 2 = .ok (.putfield 131, 3) := by decide +kernel
theorem dX11_field_5 : decode cX11_field 5 = .ok (.iload_n 1, 1) := by decide +kernel
theorem dX11_field_6 : decode cX11_field 6 = .ok (.i2l, 1) := by decide +kernel
theorem dX11_field_7 : decode cX11_field 7 = .ok (.lconst 0, 1) := by decide +kernel
theorem dX11_field_8 : decode cX11_field 8 = .ok (.aload_n 0, 1) := by decide +kernel
theorem dX11_field_9 : decode cX11_field 9 = .ok (.getfield 282, 3) := by decide +kernel
theorem dX11_field_12 : decode cX11_field 12 = .ok (.iconst 1, 1) := by decide +kernel
theorem dX11_field_13 : decode cX11_field 13 = .ok (.isub, 1) := by decide +kernel
theorem dX11_field_14 : decode cX11_field 14 = .ok (.i2l, 1) := by decide +kernel
theorem dX11_field_15 : decode cX11_field 15 = .ok (.invokestatic 138, 3) := by decide +kernel
theorem dX11_field_18 : decode cX11_field 18 = .ok (.ifCond .eq 28, 3) := by decide +kernel
theorem dX11_field_21 : decode cX11_field 21 = .ok (.iload_n 2, 1) := by decide +kernel
theorem dX11_field_22 : decode cX11_field 22 = .ok (.i2l, 1) := by decide +kernel
theorem dX11_field_23 : decode cX11_field 23 = .ok (.lconst 0, 1) := by decide +kernel
theorem dX11_field_24 : decode cX11_field 24 = .ok (.ldc2_w 227, 3) := by decide +kernel
theorem dX11_field_27 : decode cX11_field 27 = .ok (.invokestatic 138, 3) := by decide +kernel
theorem dX11_field_30 : decode cX11_field 30 = .ok (.ifCond .eq 16, 3) := by decide +kernel
theorem dX11_field_33 : decode cX11_field 33 = .ok (.aload_n 0, 1) := by decide +kernel
theorem dX11_field_34 : decode cX11_field 34 = .ok (.getfield 69, 3) := by decide +kernel
theorem dX11_field_37 : decode cX11_field 37 = .ok (.iconst 3, 1) := by decide +kernel
theorem dX11_field_38 : decode cX11_field 38 = .ok (.iload_n 1, 1) := by decide +kernel
theorem dX11_field_39 : decode cX11_field 39 = .ok (.imul, 1) := by decide +kernel
theorem dX11_field_40 : decode cX11_field 40 = .ok (.iload_n 2, 1) := by decide +kernel
theorem dX11_field_41 : decode cX11_field 41 = .ok (.iadd, 1) := by decide +kernel
theorem dX11_field_42 : decode cX11_field 42 = .ok (.laload, 1) := by decide +kernel
theorem dX11_field_43 : decode cX11_field 43 = .ok (.goto 4, 3) := by decide +kernel
theorem dX11_field_46 : decode cX11_field 46 = .ok (.lconst 0, 1) := by decide +kernel
theorem dX11_field_47 : decode cX11_field 47 = .ok (.lreturn, 1) := by decide +kernel
theorem dX11_hand_0 : decode cX11_hand 0 = .ok (.aload_n 0, 1) := by decide +kernel
theorem dX11_hand_1 : decode cX11_hand 1 = .ok (.iconst 0, 1) := by decide +kernel
theorem dX11_hand_2 : decode cX11_hand 2 = .ok (.putfield 131, 3) := by decide +kernel
theorem dX11_hand_5 : decode cX11_hand 5 = .ok (.iload_n 1, 1) := by decide +kernel
theorem dX11_hand_6 : decode cX11_hand 6 = .ok (.i2l, 1) := by decide +kernel
theorem dX11_hand_7 : decode cX11_hand 7 = .ok (.lconst 0, 1) := by decide +kernel
theorem dX11_hand_8 : decode cX11_hand 8 = .ok (.ldc2_w 285, 3) := by decide +kernel
theorem dX11_hand_11 : decode cX11_hand 11 = .ok (.invokestatic 138, 3) := by decide +kernel
theorem dX11_hand_14 : decode cX11_hand 14 = .ok (.ifCond .ne 6, 3) := by decide +kernel
theorem dX11_hand_17 : decode cX11_hand 17 = .ok (.bipush (-3), 2) := by decide +kernel
theorem dX11_hand_19 : decode cX11_hand 19 = .ok (.ireturn, 1) := by decide +kernel
theorem dX11_hand_20 : decode cX11_hand 20 = .ok (.aload_n 0, 1) := by decide +kernel
theorem dX11_hand_21 : decode cX11_hand 21 = .ok (.getfield 72, 3) := by decide +kernel
theorem dX11_hand_24 : decode cX11_hand 24 = .ok (.iload_n 1, 1) := by decide +kernel
theorem dX11_hand_25 : decode cX11_hand 25 = .ok (.lload_n 2, 1) := by decide +kernel
theorem dX11_hand_26 : decode cX11_hand 26 = .ok (.lastore, 1) := by decide +kernel
theorem dX11_hand_27 : decode cX11_hand 27 = .ok (.iconst 0, 1) := by decide +kernel
theorem dX11_hand_28 : decode cX11_hand 28 = .ok (.ireturn, 1) := by decide +kernel
theorem dX11_link_0 : decode cX11_link 0 = .ok (.aload_n 0, 1) := by decide +kernel
theorem dX11_link_1 : decode cX11_link 1 = .ok (.aload_n 0, 1) := by decide +kernel
theorem dX11_link_2 : decode cX11_link 2 = .ok (.getfield 111, 3) := by decide +kernel
theorem dX11_link_5 : decode cX11_link 5 = .ok (.aload_n 0, 1) := by decide +kernel
theorem dX11_link_6 : decode cX11_link 6 = .ok (.getfield 287, 3) := by decide +kernel
theorem dX11_link_9 : decode cX11_link 9 = .ok (.iconst 1, 1) := by decide +kernel
theorem dX11_link_10 : decode cX11_link 10 = .ok (.isub, 1) := by decide +kernel
theorem dX11_link_11 : decode cX11_link 11 = .ok (.iaload, 1) := by decide +kernel
theorem dX11_link_12 : decode cX11_link 12 = .ok (.iload_n 1, 1) := by decide +kernel
theorem dX11_link_13 : decode cX11_link 13 = .ok (.invokevirtual 266, 3) := by decide +kernel
theorem dX11_link_16 : decode cX11_link 16 = .ok (.ifCond .ne 5, 3) := by decide +kernel
theorem dX11_link_19 : decode cX11_link 19 = .ok (.iconst 0, 1) := by decide +kernel
theorem dX11_link_20 : decode cX11_link 20 = .ok (.ireturn, 1) := by decide +kernel
theorem dX11_link_21 : decode cX11_link 21 = .ok (.iconst 0, 1) := by decide +kernel
theorem dX11_link_22 : decode cX11_link 22 = .ok (.istore_n 2, 1) := by decide +kernel
theorem dX11_link_23 : decode cX11_link 23 = .ok (.iload_n 2, 1) := by decide +kernel
theorem dX11_link_24 : decode cX11_link 24 = .ok (.iconst 4, 1) := by decide +kernel
theorem dX11_link_25 : decode cX11_link 25 = .ok (.if_icmp .ge 28, 3) := by decide +kernel
theorem dX11_link_28 : decode cX11_link 28 = .ok (.aload_n 0, 1) := by decide +kernel
theorem dX11_link_29 : decode cX11_link 29 = .ok (.getfield 114, 3) := by decide +kernel
theorem dX11_link_32 : decode cX11_link 32 = .ok (.iconst 4, 1) := by decide +kernel
theorem dX11_link_33 : decode cX11_link 33 = .ok (.aload_n 0, 1) := by decide +kernel
theorem dX11_link_34 : decode cX11_link 34 = .ok (.getfield 287, 3) := by decide +kernel
theorem dX11_link_37 : decode cX11_link 37 = .ok (.imul, 1) := by decide +kernel
theorem dX11_link_38 : decode cX11_link 38 = .ok (.iload_n 2, 1) := by decide +kernel
theorem dX11_link_39 : decode cX11_link 39 = .ok (.iadd, 1) := by decide +kernel
theorem dX11_link_40 : decode cX11_link 40 = .ok (.aload_n 0, 1) := by decide +kernel
theorem dX11_link_41 : decode cX11_link 41 = .ok (.getfield 96, 3) := by decide +kernel
theorem dX11_link_44 : decode cX11_link 44 = .ok (.iload_n 2, 1) := by decide +kernel
theorem dX11_link_45 : decode cX11_link 45 = .ok (.iaload, 1) := by decide +kernel
theorem dX11_link_46 : decode cX11_link 46 = .ok (.iastore, 1) := by decide +kernel
theorem dX11_link_47 : decode cX11_link 47 = .ok (.iinc 2 1, 3) := by decide +kernel
theorem dX11_link_50 : decode cX11_link 50 = .ok (.goto (-27), 3) := by decide +kernel
theorem dX11_link_53 : decode cX11_link 53 = .ok (.aload_n 0, 1) := by decide +kernel
theorem dX11_link_54 : decode cX11_link 54 = .ok (.getfield 111, 3) := by decide +kernel
theorem dX11_link_57 : decode cX11_link 57 = .ok (.aload_n 0, 1) := by decide +kernel
theorem dX11_link_58 : decode cX11_link 58 = .ok (.getfield 287, 3) := by decide +kernel
theorem dX11_link_61 : decode cX11_link 61 = .ok (.bipush 6, 2) := by decide +kernel
theorem dX11_link_63 : decode cX11_link 63 = .ok (.iload_n 1, 1) := by decide +kernel
theorem dX11_link_64 : decode cX11_link 64 = .ok (.imul, 1) := by decide +kernel
theorem dX11_link_65 : decode cX11_link 65 = .ok (.aload_n 0, 1) := by decide +kernel
theorem dX11_link_66 : decode cX11_link 66 = .ok (.getfield 259, 3) := by decide +kernel
theorem dX11_link_69 : decode cX11_link 69 = .ok (.iadd, 1) := by decide +kernel
theorem dX11_link_70 : decode cX11_link 70 = .ok (.iastore, 1) := by decide +kernel
theorem dX11_link_71 : decode cX11_link 71 = .ok (.aload_n 0, 1) := by decide +kernel
theorem dX11_link_72 : decode cX11_link 72 = .ok (.dup, 1) := by decide +kernel
theorem dX11_link_73 : decode cX11_link 73 = .ok (.getfield 287, 3) := by decide +kernel
theorem dX11_link_76 : decode cX11_link 76 = .ok (.iconst 1, 1) := by decide +kernel
theorem dX11_link_77 : decode cX11_link 77 = .ok (.iadd, 1) := by decide +kernel
theorem dX11_link_78 : decode cX11_link 78 = .ok (.putfield 287, 3) := by decide +kernel
theorem dX11_link_81 : decode cX11_link 81 = .ok (.iconst 1, 1) := by decide +kernel
theorem dX11_link_82 : decode cX11_link 82 = .ok (.ireturn, 1) := by decide +kernel
theorem dX11_goIn_0 : decode cX11_goIn 0 = .ok (.aload_n 0, 1) := by decide +kernel
theorem dX11_goIn_1 : decode cX11_goIn 1 = .ok (.getfield 111, 3) := by decide +kernel
theorem dX11_goIn_4 : decode cX11_goIn 4 = .ok (.iload_n 1, 1) := by decide +kernel
theorem dX11_goIn_5 : decode cX11_goIn 5 = .ok (.iconst 1, 1) := by decide +kernel
theorem dX11_goIn_6 : decode cX11_goIn 6 = .ok (.isub, 1) := by decide +kernel
theorem dX11_goIn_7 : decode cX11_goIn 7 = .ok (.iaload, 1) := by decide +kernel
theorem dX11_goIn_8 : decode cX11_goIn 8 = .ok (.istore_n 2, 1) := by decide +kernel
theorem dX11_goIn_9 : decode cX11_goIn 9 = .ok (.aload_n 0, 1) := by decide +kernel
theorem dX11_goIn_10 : decode cX11_goIn 10 = .ok (.getfield 111, 3) := by decide +kernel
theorem dX11_goIn_13 : decode cX11_goIn 13 = .ok (.iload_n 1, 1) := by decide +kernel
theorem dX11_goIn_14 : decode cX11_goIn 14 = .ok (.iaload, 1) := by decide +kernel
theorem dX11_goIn_15 : decode cX11_goIn 15 = .ok (.istore_n 3, 1) := by decide +kernel
theorem dX11_goIn_16 : decode cX11_goIn 16 = .ok (.iconst 0, 1) := by decide +kernel
theorem dX11_goIn_17 : decode cX11_goIn 17 = .ok (.istore 4, 2) := by decide +kernel
theorem dX11_goIn_19 : decode cX11_goIn 19 = .ok (.iload 4, 2) := by decide +kernel
theorem dX11_goIn_21 : decode cX11_goIn 21 = .ok (.aload_n 0, 1) := by decide +kernel
theorem dX11_goIn_22 : decode cX11_goIn 22 = .ok (.getfield 35, 3) := by decide +kernel
theorem dX11_goIn_25 : decode cX11_goIn 25 = .ok (.iload_n 3, 1) := by decide +kernel
theorem dX11_goIn_26 : decode cX11_goIn 26 = .ok (.iaload, 1) := by decide +kernel
theorem dX11_goIn_27 : decode cX11_goIn 27 = .ok (.if_icmp .ge 99, 3) := by decide +kernel
theorem dX11_goIn_30 : decode cX11_goIn 30 = .ok (.aload_n 0, 1) := by decide +kernel
theorem dX11_goIn_31 : decode cX11_goIn 31 = .ok (.getfield 38, 3) := by decide +kernel
theorem dX11_goIn_34 : decode cX11_goIn 34 = .ok (.iconst 4, 1) := by decide +kernel
theorem dX11_goIn_35 : decode cX11_goIn 35 = .ok (.iload_n 3, 1) := by decide +kernel
theorem dX11_goIn_36 : decode cX11_goIn 36 = .ok (.imul, 1) := by decide +kernel
theorem dX11_goIn_37 : decode cX11_goIn 37 = .ok (.iload 4, 2) := by decide +kernel
theorem dX11_goIn_39 : decode cX11_goIn 39 = .ok (.iadd, 1) := by decide +kernel
theorem dX11_goIn_40 : decode cX11_goIn 40 = .ok (.iaload, 1) := by decide +kernel
theorem dX11_goIn_41 : decode cX11_goIn 41 = .ok (.istore 5, 2) := by decide +kernel
theorem dX11_goIn_43 : decode cX11_goIn 43 = .ok (.aload_n 0, 1) := by decide +kernel
theorem dX11_goIn_44 : decode cX11_goIn 44 = .ok (.getfield 114, 3) := by decide +kernel
theorem dX11_goIn_47 : decode cX11_goIn 47 = .ok (.iconst 4, 1) := by decide +kernel
theorem dX11_goIn_48 : decode cX11_goIn 48 = .ok (.iload_n 1, 1) := by decide +kernel
theorem dX11_goIn_49 : decode cX11_goIn 49 = .ok (.imul, 1) := by decide +kernel
theorem dX11_goIn_50 : decode cX11_goIn 50 = .ok (.iload 4, 2) := by decide +kernel
theorem dX11_goIn_52 : decode cX11_goIn 52 = .ok (.iadd, 1) := by decide +kernel
theorem dX11_goIn_53 : decode cX11_goIn 53 = .ok (.iaload, 1) := by decide +kernel
theorem dX11_goIn_54 : decode cX11_goIn 54 = .ok (.istore 6, 2) := by decide +kernel
theorem dX11_goIn_56 : decode cX11_goIn 56 = .ok (.iload 6, 2) := by decide +kernel
theorem dX11_goIn_58 : decode cX11_goIn 58 = .ok (.iconst 4, 1) := by decide +kernel
theorem dX11_goIn_59 : decode cX11_goIn 59 = .ok (.if_icmp .ne 20, 3) := by decide +kernel
theorem dX11_goIn_62 : decode cX11_goIn 62 = .ok (.aload_n 0, 1) := by decide +kernel
theorem dX11_goIn_63 : decode cX11_goIn 63 = .ok (.getfield 120, 3) := by decide +kernel
theorem dX11_goIn_66 : decode cX11_goIn 66 = .ok (.iload 4, 2) := by decide +kernel
theorem dX11_goIn_68 : decode cX11_goIn 68 = .ok (.aload_n 0, 1) := by decide +kernel
theorem dX11_goIn_69 : decode cX11_goIn 69 = .ok (.getfield 62, 3) := by decide +kernel
theorem dX11_goIn_72 : decode cX11_goIn 72 = .ok (.iload 5, 2) := by decide +kernel
theorem dX11_goIn_74 : decode cX11_goIn 74 = .ok (.laload, 1) := by decide +kernel
theorem dX11_goIn_75 : decode cX11_goIn 75 = .ok (.lastore, 1) := by decide +kernel
theorem dX11_goIn_76 : decode cX11_goIn 76 = .ok (.goto 44, 3) := by decide +kernel
theorem dX11_goIn_79 : decode cX11_goIn 79 = .ok (.aload_n 0, 1) := by decide +kernel
theorem dX11_goIn_80 : decode cX11_goIn 80 = .ok (.aload_n 0, 1) := by decide +kernel
theorem dX11_goIn_81 : decode cX11_goIn 81 = .ok (.getfield 38, 3) := by decide +kernel
theorem dX11_goIn_84 : decode cX11_goIn 84 = .ok (.iconst 4, 1) := by decide +kernel
theorem dX11_goIn_85 : decode cX11_goIn 85 = .ok (.iload_n 2, 1) := by decide +kernel
theorem dX11_goIn_86 : decode cX11_goIn 86 = .ok (.imul, 1) := by decide +kernel
theorem dX11_goIn_87 : decode cX11_goIn 87 = .ok (.iload 6, 2) := by decide +kernel
theorem dX11_goIn_89 : decode cX11_goIn 89 = .ok (.iadd, 1) := by decide +kernel
theorem dX11_goIn_90 : decode cX11_goIn 90 = .ok (.iaload, 1) := by decide +kernel
theorem dX11_goIn_91 : decode cX11_goIn 91 = .ok (.iload 5, 2) := by decide +kernel
theorem dX11_goIn_93 : decode cX11_goIn 93 = .ok (.aload_n 0, 1) := by decide +kernel
theorem dX11_goIn_94 : decode cX11_goIn 94 = .ok (.getfield 117, 3) := by decide +kernel
theorem dX11_goIn_97 : decode cX11_goIn 97 = .ok (.iload 6, 2) := by decide +kernel
theorem dX11_goIn_99 : decode cX11_goIn 99 = .ok (.laload, 1) := by decide +kernel
theorem dX11_goIn_100 : decode cX11_goIn 100 = .ok (.iconst 1, 1) := by decide +kernel
theorem dX11_goIn_101 : decode cX11_goIn 101 = .ok (.invokevirtual 212, 3) := by decide +kernel
theorem dX11_goIn_104 : decode cX11_goIn 104 = .ok (.ifCond .ne 5, 3) := by decide +kernel
theorem dX11_goIn_107 : decode cX11_goIn 107 = .ok (.iconst 0, 1) := by decide +kernel
theorem dX11_goIn_108 : decode cX11_goIn 108 = .ok (.ireturn, 1) := by decide +kernel
theorem dX11_goIn_109 : decode cX11_goIn 109 = .ok (.aload_n 0, 1) := by decide +kernel
theorem dX11_goIn_110 : decode cX11_goIn 110 = .ok (.getfield 120, 3) := by decide +kernel
theorem dX11_goIn_113 : decode cX11_goIn 113 = .ok (.iload 4, 2) := by decide +kernel
theorem dX11_goIn_115 : decode cX11_goIn 115 = .ok (.aload_n 0, 1) := by decide +kernel
theorem dX11_goIn_116 : decode cX11_goIn 116 = .ok (.getfield 202, 3) := by decide +kernel
theorem dX11_goIn_119 : decode cX11_goIn 119 = .ok (.lastore, 1) := by decide +kernel
theorem dX11_goIn_120 : decode cX11_goIn 120 = .ok (.iinc 4 1, 3) := by decide +kernel
theorem dX11_goIn_123 : decode cX11_goIn 123 = .ok (.goto (-104), 3) := by decide +kernel
theorem dX11_goIn_126 : decode cX11_goIn 126 = .ok (.iconst 0, 1) := by decide +kernel
theorem dX11_goIn_127 : decode cX11_goIn 127 = .ok (.istore 4, 2) := by decide +kernel
theorem dX11_goIn_129 : decode cX11_goIn 129 = .ok (.iload 4, 2) := by decide +kernel
theorem dX11_goIn_131 : decode cX11_goIn 131 = .ok (.aload_n 0, 1) := by decide +kernel
theorem dX11_goIn_132 : decode cX11_goIn 132 = .ok (.getfield 35, 3) := by decide +kernel
theorem dX11_goIn_135 : decode cX11_goIn 135 = .ok (.iload_n 3, 1) := by decide +kernel
theorem dX11_goIn_136 : decode cX11_goIn 136 = .ok (.iaload, 1) := by decide +kernel
theorem dX11_goIn_137 : decode cX11_goIn 137 = .ok (.if_icmp .ge 23, 3) := by decide +kernel
theorem dX11_goIn_140 : decode cX11_goIn 140 = .ok (.aload_n 0, 1) := by decide +kernel
theorem dX11_goIn_141 : decode cX11_goIn 141 = .ok (.getfield 117, 3) := by decide +kernel
theorem dX11_goIn_144 : decode cX11_goIn 144 = .ok (.iload 4, 2) := by decide +kernel
theorem dX11_goIn_146 : decode cX11_goIn 146 = .ok (.aload_n 0, 1) := by decide +kernel
theorem dX11_goIn_147 : decode cX11_goIn 147 = .ok (.getfield 120, 3) := by decide +kernel
theorem dX11_goIn_150 : decode cX11_goIn 150 = .ok (.iload 4, 2) := by decide +kernel
theorem dX11_goIn_152 : decode cX11_goIn 152 = .ok (.laload, 1) := by decide +kernel
theorem dX11_goIn_153 : decode cX11_goIn 153 = .ok (.lastore, 1) := by decide +kernel
theorem dX11_goIn_154 : decode cX11_goIn 154 = .ok (.iinc 4 1, 3) := by decide +kernel
theorem dX11_goIn_157 : decode cX11_goIn 157 = .ok (.goto (-28), 3) := by decide +kernel
theorem dX11_goIn_160 : decode cX11_goIn 160 = .ok (.iconst 1, 1) := by decide +kernel
theorem dX11_goIn_161 : decode cX11_goIn 161 = .ok (.ireturn, 1) := by decide +kernel
theorem dX11_plus_0 : decode cX11_plus 0 = .ok (.aload_n 0, 1) := by decide +kernel
theorem dX11_plus_1 : decode cX11_plus 1 = .ok (.getfield 290, 3) := by decide +kernel
theorem dX11_plus_4 : decode cX11_plus 4 = .ok (.lload_n 1, 1) := by decide +kernel
theorem dX11_plus_5 : decode cX11_plus 5 = .ok (.ladd, 1) := by decide +kernel
theorem dX11_plus_6 : decode cX11_plus 6 = .ok (.lstore_n 3, 1) := by decide +kernel
theorem dX11_plus_7 : decode cX11_plus 7 = .ok (.aload_n 0, 1) := by decide +kernel
theorem dX11_plus_8 : decode cX11_plus 8 = .ok (.getfield 290, 3) := by decide +kernel
theorem dX11_plus_11 : decode cX11_plus 11 = .ok (.lload_n 3, 1) := by decide +kernel
theorem dX11_plus_12 : decode cX11_plus 12 = .ok (.lxor, 1) := by decide +kernel
theorem dX11_plus_13 : decode cX11_plus 13 = .ok (.lload_n 1, 1) := by decide +kernel
theorem dX11_plus_14 : decode cX11_plus 14 = .ok (.lload_n 3, 1) := by decide +kernel
theorem dX11_plus_15 : decode cX11_plus 15 = .ok (.lxor, 1) := by decide +kernel
theorem dX11_plus_16 : decode cX11_plus 16 = .ok (.land, 1) := by decide +kernel
theorem dX11_plus_17 : decode cX11_plus 17 = .ok (.lconst 0, 1) := by decide +kernel
theorem dX11_plus_18 : decode cX11_plus 18 = .ok (.lcmp, 1) := by decide +kernel
theorem dX11_plus_19 : decode cX11_plus 19 = .ok (.ifCond .lt 7, 3) := by decide +kernel
theorem dX11_plus_22 : decode cX11_plus 22 = .ok (.iconst 1, 1) := by decide +kernel
theorem dX11_plus_23 : decode cX11_plus 23 = .ok (.goto 4, 3) := by decide +kernel
theorem dX11_plus_26 : decode cX11_plus 26 = .ok (.iconst 0, 1) := by decide +kernel
theorem dX11_plus_27 : decode cX11_plus 27 = .ok (.istore 5, 2) := by decide +kernel
theorem dX11_plus_29 : decode cX11_plus 29 = .ok (.aload_n 0, 1) := by decide +kernel
theorem dX11_plus_30 : decode cX11_plus 30 = .ok (.lload_n 3, 1) := by decide +kernel
theorem dX11_plus_31 : decode cX11_plus 31 = .ok (.putfield 290, 3) := by decide +kernel
theorem dX11_plus_34 : decode cX11_plus 34 = .ok (.iload 5, 2) := by decide +kernel
theorem dX11_plus_36 : decode cX11_plus 36 = .ok (.ireturn, 1) := by decide +kernel
theorem dX11_doWork_0 : decode cX11_doWork 0 = .ok (.iconst 3, 1) := by decide +kernel
theorem dX11_doWork_1 : decode cX11_doWork 1 = .ok (.iload_n 2, 1) := by decide +kernel
theorem dX11_doWork_2 : decode cX11_doWork 2 = .ok (.imul, 1) := by decide +kernel
theorem dX11_doWork_3 : decode cX11_doWork 3 = .ok (.aload_n 0, 1) := by decide +kernel
theorem dX11_doWork_4 : decode cX11_doWork 4 = .ok (.getfield 47, 3) := by decide +kernel
theorem dX11_doWork_7 : decode cX11_doWork 7 = .ok (.iload_n 1, 1) := by decide +kernel
theorem dX11_doWork_8 : decode cX11_doWork 8 = .ok (.iaload, 1) := by decide +kernel
theorem dX11_doWork_9 : decode cX11_doWork 9 = .ok (.iadd, 1) := by decide +kernel
theorem dX11_doWork_10 : decode cX11_doWork 10 = .ok (.istore_n 3, 1) := by decide +kernel
theorem dX11_doWork_11 : decode cX11_doWork 11 = .ok (.aload_n 0, 1) := by decide +kernel
theorem dX11_doWork_12 : decode cX11_doWork 12 = .ok (.aload_n 0, 1) := by decide +kernel
theorem dX11_doWork_13 : decode cX11_doWork 13 = .ok (.getfield 44, 3) := by decide +kernel
theorem dX11_doWork_16 : decode cX11_doWork 16 = .ok (.iload_n 1, 1) := by decide +kernel
theorem dX11_doWork_17 : decode cX11_doWork 17 = .ok (.iaload, 1) := by decide +kernel
theorem dX11_doWork_18 : decode cX11_doWork 18 = .ok (.ifCond .ne 13, 3) := by decide +kernel
theorem dX11_doWork_21 : decode cX11_doWork 21 = .ok (.aload_n 0, 1) := by decide +kernel
theorem dX11_doWork_22 : decode cX11_doWork 22 = .ok (.getfield 50, 3) := by decide +kernel
theorem dX11_doWork_25 : decode cX11_doWork 25 = .ok (.iload_n 1, 1) := by decide +kernel
theorem dX11_doWork_26 : decode cX11_doWork 26 = .ok (.iaload, 1) := by decide +kernel
theorem dX11_doWork_27 : decode cX11_doWork 27 = .ok (.i2l, 1) := by decide +kernel
theorem dX11_doWork_28 : decode cX11_doWork 28 = .ok (.goto 4, 3) := by decide +kernel
theorem dX11_doWork_31 : decode cX11_doWork 31 = .ok (.lconst 0, 1) := by decide +kernel
theorem dX11_doWork_32 : decode cX11_doWork 32 = .ok (.putfield 290, 3) := by decide +kernel
theorem dX11_doWork_35 : decode cX11_doWork 35 = .ok (.iconst 1, 1) := by decide +kernel
theorem dX11_doWork_36 : decode cX11_doWork 36 = .ok (.istore 4, 2) := by decide +kernel
theorem dX11_doWork_38 : decode cX11_doWork 38 = .ok (.iconst 0, 1) := by decide +kernel
theorem dX11_doWork_39 : decode cX11_doWork 39 = .ok (.istore 5, 2) := by decide +kernel
theorem dX11_doWork_41 : decode cX11_doWork 41 = .ok (.iload 5, 2) := by decide +kernel
theorem dX11_doWork_43 : decode cX11_doWork 43 = .ok (.aload_n 0, 1) := by decide +kernel
theorem dX11_doWork_44 : decode cX11_doWork 44 = .ok (.getfield 35, 3) := by decide +kernel
theorem dX11_doWork_47 : decode cX11_doWork 47 = .ok (.iload_n 1, 1) := by decide +kernel
theorem dX11_doWork_48 : decode cX11_doWork 48 = .ok (.iaload, 1) := by decide +kernel
theorem dX11_doWork_49 : decode cX11_doWork 49 = .ok (.if_icmp .ge 100, 3) := by decide +kernel
theorem dX11_doWork_52 : decode cX11_doWork 52 = .ok (.aload_n 0, 1) := by decide +kernel
theorem dX11_doWork_53 : decode cX11_doWork 53 = .ok (.getfield 44, 3) := by decide +kernel
theorem dX11_doWork_56 : decode cX11_doWork 56 = .ok (.iload_n 1, 1) := by decide +kernel
theorem dX11_doWork_57 : decode cX11_doWork 57 = .ok (.iaload, 1) := by decide +kernel
theorem dX11_doWork_58 : decode cX11_doWork 58 = .ok (.iconst 1, 1) := by decide +kernel
theorem dX11_doWork_59 : decode cX11_doWork 59 = .ok (.if_icmp .eq 90, 3) := by decide +kernel
theorem dX11_doWork_62 : decode cX11_doWork 62 = .ok (.aload_n 0, 1) := by decide +kernel
theorem dX11_doWork_63 : decode cX11_doWork 63 = .ok (.getfield 44, 3) := by decide +kernel
theorem dX11_doWork_66 : decode cX11_doWork 66 = .ok (.iload_n 1, 1) := by decide +kernel
theorem dX11_doWork_67 : decode cX11_doWork 67 = .ok (.iaload, 1) := by decide +kernel
theorem dX11_doWork_68 : decode cX11_doWork 68 = .ok (.ifCond .ne 18, 3) := by decide +kernel
theorem dX11_doWork_71 : decode cX11_doWork 71 = .ok (.aload_n 0, 1) := by decide +kernel
theorem dX11_doWork_72 : decode cX11_doWork 72 = .ok (.getfield 53, 3) := by decide +kernel
theorem dX11_doWork_75 : decode cX11_doWork 75 = .ok (.iconst 4, 1) := by decide +kernel
theorem dX11_doWork_76 : decode cX11_doWork 76 = .ok (.iload_n 1, 1) := by decide +kernel
theorem dX11_doWork_77 : decode cX11_doWork 77 = .ok (.imul, 1) := by decide +kernel
theorem dX11_doWork_78 : decode cX11_doWork 78 = .ok (.iload 5, 2) := by decide +kernel
theorem dX11_doWork_80 : decode cX11_doWork 80 = .ok (.iadd, 1) := by decide +kernel
theorem dX11_doWork_81 : decode cX11_doWork 81 = .ok (.iaload, 1) := by decide +kernel
theorem dX11_doWork_82 : decode cX11_doWork 82 = .ok (.i2l, 1) := by decide +kernel
theorem dX11_doWork_83 : decode cX11_doWork 83 = .ok (.goto 4, 3) := by decide +kernel
theorem dX11_doWork_86 : decode cX11_doWork 86 = .ok (.lconst 1, 1) := by decide +kernel
theorem dX11_doWork_87 : decode cX11_doWork 87 = .ok (.lstore 6, 2) := by decide +kernel
theorem dX11_doWork_89 : decode cX11_doWork 89 = .ok (.aload_n 0, 1) := by decide +kernel
theorem dX11_doWork_90 : decode cX11_doWork 90 = .ok (.getfield 117, 3) := by decide +kernel
theorem dX11_doWork_93 : decode cX11_doWork 93 = .ok (.iload 5, 2) := by decide +kernel
theorem dX11_doWork_95 : decode cX11_doWork 95 = .ok (.laload, 1) := by decide +kernel
theorem dX11_doWork_96 : decode cX11_doWork 96 = .ok (.lload 6, 2) := by decide +kernel
theorem dX11_doWork_98 : decode cX11_doWork 98 = .ok (.lmul, 1) := by decide +kernel
theorem dX11_doWork_99 : decode cX11_doWork 99 = .ok (.lstore 8, 2) := by decide +kernel
theorem dX11_doWork_101 : decode cX11_doWork 101 = .ok (.iload 4, 2) := by decide +kernel
theorem dX11_doWork_103 : decode cX11_doWork 103 = .ok (.ifCond .eq 37, 3) := by decide +kernel
theorem dX11_doWork_106 : decode cX11_doWork 106 = .ok (.aload_n 0, 1) := by decide +kernel
theorem dX11_doWork_107 : decode cX11_doWork 107 = .ok (.getfield 117, 3) := by decide +kernel
theorem dX11_doWork_110 : decode cX11_doWork 110 = .ok (.iload 5, 2) := by decide +kernel
theorem dX11_doWork_112 : decode cX11_doWork 112 = .ok (.laload, 1) := by decide +kernel
theorem dX11_doWork_113 : decode cX11_doWork 113 = .ok (.lload 6, 2) := by decide +kernel
theorem dX11_doWork_115 : decode cX11_doWork 115 = .ok (.invokestatic 164, 3) := by decide +kernel
theorem dX11_doWork_118 : decode cX11_doWork 118 = .ok (.lload 8, 2) := by decide +kernel
theorem dX11_doWork_120 : decode cX11_doWork 120 = .ok (.bipush 63, 2) := by decide +kernel
theorem dX11_doWork_122 : decode cX11_doWork 122 = .ok (.lshr, 1) := by decide +kernel
theorem dX11_doWork_123 : decode cX11_doWork 123 = .ok (.lcmp, 1) := by decide +kernel
theorem dX11_doWork_124 : decode cX11_doWork 124 = .ok (.ifCond .ne 16, 3) := by decide +kernel
theorem dX11_doWork_127 : decode cX11_doWork 127 = .ok (.aload_n 0, 1) := by decide +kernel
theorem dX11_doWork_128 : decode cX11_doWork 128 = .ok (.lload 8, 2) := by decide +kernel
theorem dX11_doWork_130 : decode cX11_doWork 130 = .ok (.invokevirtual 293, 3) := by decide +kernel
theorem dX11_doWork_133 : decode cX11_doWork 133 = .ok (.ifCond .eq 7, 3) := by decide +kernel
theorem dX11_doWork_136 : decode cX11_doWork 136 = .ok (.iconst 1, 1) := by decide +kernel
theorem dX11_doWork_137 : decode cX11_doWork 137 = .ok (.goto 4, 3) := by decide +kernel
theorem dX11_doWork_140 : decode cX11_doWork 140 = .ok (.iconst 0, 1) := by decide +kernel
theorem dX11_doWork_141 : decode cX11_doWork 141 = .ok (.istore 4, 2) := by decide +kernel
theorem dX11_doWork_143 : decode cX11_doWork 143 = .ok (.iinc 5 1, 3) := by decide +kernel
theorem dX11_doWork_146 : decode cX11_doWork 146 = .ok (.goto (-105), 3) := by decide +kernel
theorem dX11_doWork_149 : decode cX11_doWork 149 = .ok (.aload_n 0, 1) := by decide +kernel
theorem dX11_doWork_150 : decode cX11_doWork 150 = .ok (.getfield 44, 3) := by decide +kernel
theorem dX11_doWork_153 : decode cX11_doWork 153 = .ok (.iload_n 1, 1) := by decide +kernel
theorem dX11_doWork_154 : decode cX11_doWork 154 = .ok (.iaload, 1) := by decide +kernel
theorem dX11_doWork_155 : decode cX11_doWork 155 = .ok (.ifCond .ne 49, 3) := by decide +kernel
theorem dX11_doWork_158 : decode cX11_doWork 158 = .ok (.iload 4, 2) := by decide +kernel
theorem dX11_doWork_160 : decode cX11_doWork 160 = .ok (.ifCond .eq 30, 3) := by decide +kernel
theorem dX11_doWork_163 : decode cX11_doWork 163 = .ok (.aload_n 0, 1) := by decide +kernel
theorem dX11_doWork_164 : decode cX11_doWork 164 = .ok (.getfield 47, 3) := by decide +kernel
theorem dX11_doWork_167 : decode cX11_doWork 167 = .ok (.iload_n 1, 1) := by decide +kernel
theorem dX11_doWork_168 : decode cX11_doWork 168 = .ok (.iaload, 1) := by decide +kernel
theorem dX11_doWork_169 : decode cX11_doWork 169 = .ok (.iconst (-1), 1) := by decide +kernel
theorem dX11_doWork_170 : decode cX11_doWork 170 = .ok (.if_icmp .eq 16, 3) := by decide +kernel
theorem dX11_doWork_173 : decode cX11_doWork 173 = .ok (.aload_n 0, 1) := by decide +kernel
theorem dX11_doWork_174 : decode cX11_doWork 174 = .ok (.aload_n 0, 1) := by decide +kernel
theorem dX11_doWork_175 : decode cX11_doWork 175 = .ok (.getfield 69, 3) := by decide +kernel
theorem dX11_doWork_178 : decode cX11_doWork 178 = .ok (.iload_n 3, 1) := by decide +kernel
theorem dX11_doWork_179 : decode cX11_doWork 179 = .ok (.laload, 1) := by decide +kernel
theorem dX11_doWork_180 : decode cX11_doWork 180 = .ok (.invokevirtual 293, 3) := by decide +kernel
theorem dX11_doWork_183 : decode cX11_doWork 183 = .ok (.ifCond .eq 7, 3) := by decide +kernel
theorem dX11_doWork_186 : decode cX11_doWork 186 = .ok (.iconst 1, 1) := by decide +kernel
theorem dX11_doWork_187 : decode cX11_doWork 187 = .ok (.goto 4, 3) := by decide +kernel
theorem dX11_doWork_190 : decode cX11_doWork 190 = .ok (.iconst 0, 1) := by decide +kernel
theorem dX11_doWork_191 : decode cX11_doWork 191 = .ok (.istore 4, 2) := by decide +kernel
theorem dX11_doWork_193 : decode cX11_doWork 193 = .ok (.aload_n 0, 1) := by decide +kernel
theorem dX11_doWork_194 : decode cX11_doWork 194 = .ok (.aload_n 0, 1) := by decide +kernel
theorem dX11_doWork_195 : decode cX11_doWork 195 = .ok (.getfield 290, 3) := by decide +kernel
theorem dX11_doWork_198 : decode cX11_doWork 198 = .ok (.putfield 297, 3) := by decide +kernel
theorem dX11_doWork_201 : decode cX11_doWork 201 = .ok (.goto 13, 3) := by decide +kernel
theorem dX11_doWork_204 : decode cX11_doWork 204 = .ok (.aload_n 0, 1) := by decide +kernel
theorem dX11_doWork_205 : decode cX11_doWork 205 = .ok (.aload_n 0, 1) := by decide +kernel
theorem dX11_doWork_206 : decode cX11_doWork 206 = .ok (.getfield 69, 3) := by decide +kernel
theorem dX11_doWork_209 : decode cX11_doWork 209 = .ok (.iload_n 3, 1) := by decide +kernel
theorem dX11_doWork_210 : decode cX11_doWork 210 = .ok (.laload, 1) := by decide +kernel
theorem dX11_doWork_211 : decode cX11_doWork 211 = .ok (.putfield 297, 3) := by decide +kernel
theorem dX11_doWork_214 : decode cX11_doWork 214 = .ok (.iload 4, 2) := by decide +kernel
theorem dX11_doWork_216 : decode cX11_doWork 216 = .ok (.ifCond .eq 19, 3) := by decide +kernel
theorem dX11_doWork_219 : decode cX11_doWork 219 = .ok (.aload_n 0, 1) := by decide +kernel
theorem dX11_doWork_220 : decode cX11_doWork 220 = .ok (.getfield 41, 3) := by decide +kernel
theorem dX11_doWork_223 : decode cX11_doWork 223 = .ok (.iload_n 1, 1) := by decide +kernel
theorem dX11_doWork_224 : decode cX11_doWork 224 = .ok (.iaload, 1) := by decide +kernel
theorem dX11_doWork_225 : decode cX11_doWork 225 = .ok (.aload_n 0, 1) := by decide +kernel
theorem dX11_doWork_226 : decode cX11_doWork 226 = .ok (.getfield 297, 3) := by decide +kernel
theorem dX11_doWork_229 : decode cX11_doWork 229 = .ok (.invokestatic 176, 3) := by decide +kernel
theorem dX11_doWork_232 : decode cX11_doWork 232 = .ok (.ifCond .ne 5, 3) := by decide +kernel
theorem dX11_doWork_235 : decode cX11_doWork 235 = .ok (.iconst 0, 1) := by decide +kernel
theorem dX11_doWork_236 : decode cX11_doWork 236 = .ok (.ireturn, 1) := by decide +kernel
theorem dX11_doWork_237 : decode cX11_doWork 237 = .ok (.aload_n 0, 1) := by decide +kernel
theorem dX11_doWork_238 : decode cX11_doWork 238 = .ok (.getfield 44, 3) := by decide +kernel
theorem dX11_doWork_241 : decode cX11_doWork 241 = .ok (.iload_n 1, 1) := by decide +kernel
theorem dX11_doWork_242 : decode cX11_doWork 242 = .ok (.iaload, 1) := by decide +kernel
theorem dX11_doWork_243 : decode cX11_doWork 243 = .ok (.iconst 2, 1) := by decide +kernel
theorem dX11_doWork_244 : decode cX11_doWork 244 = .ok (.if_icmp .ne 13, 3) := by decide +kernel
theorem dX11_doWork_247 : decode cX11_doWork 247 = .ok (.aload_n 0, 1) := by decide +kernel
theorem dX11_doWork_248 : decode cX11_doWork 248 = .ok (.getfield 69, 3) := by decide +kernel
theorem dX11_doWork_251 : decode cX11_doWork 251 = .ok (.iload_n 3, 1) := by decide +kernel
theorem dX11_doWork_252 : decode cX11_doWork 252 = .ok (.aload_n 0, 1) := by decide +kernel
theorem dX11_doWork_253 : decode cX11_doWork 253 = .ok (.getfield 290, 3) := by decide +kernel
theorem dX11_doWork_256 : decode cX11_doWork 256 = .ok (.lastore, 1) := by decide +kernel
theorem dX11_doWork_257 : decode cX11_doWork 257 = .ok (.iconst 1, 1) := by decide +kernel
theorem dX11_doWork_258 : decode cX11_doWork 258 = .ok (.ireturn, 1) := by decide +kernel
theorem dX11_callChain_0 : decode cX11_callChain 0 = .ok (.aload_n 0, 1) := by decide +kernel
theorem dX11_callChain_1 : decode cX11_callChain 1 = .ok (.getfield 111, 3) := by decide +kernel
theorem dX11_callChain_4 : decode cX11_callChain 4 = .ok (.iconst 0, 1) := by decide +kernel
theorem dX11_callChain_5 : decode cX11_callChain 5 = .ok (.iaload, 1) := by decide +kernel
theorem dX11_callChain_6 : decode cX11_callChain 6 = .ok (.istore_n 2, 1) := by decide +kernel
theorem dX11_callChain_7 : decode cX11_callChain 7 = .ok (.iconst 0, 1) := by decide +kernel
theorem dX11_callChain_8 : decode cX11_callChain 8 = .ok (.istore_n 3, 1) := by decide +kernel
theorem dX11_callChain_9 : decode cX11_callChain 9 = .ok (.iload_n 3, 1) := by decide +kernel
theorem dX11_callChain_10 : decode cX11_callChain 10 = .ok (.aload_n 0, 1) := by decide +kernel
theorem dX11_callChain_11 : decode cX11_callChain 11 = .ok (.getfield 35, 3) := by decide +kernel
theorem dX11_callChain_14 : decode cX11_callChain 14 = .ok (.iload_n 2, 1) := by decide +kernel
theorem dX11_callChain_15 : decode cX11_callChain 15 = .ok (.iaload, 1) := by decide +kernel
theorem dX11_callChain_16 : decode cX11_callChain 16 = .ok (.if_icmp .ge 52, 3) := by decide +kernel
theorem dX11_callChain_19 : decode cX11_callChain 19 = .ok (.aload_n 0, 1) := by decide +kernel
theorem dX11_callChain_20 : decode cX11_callChain 20 = .ok (.getfield 117, 3) := by decide +kernel
theorem dX11_callChain_23 : decode cX11_callChain 23 = .ok (.iload_n 3, 1) := by decide +kernel
theorem dX11_callChain_24 : decode cX11_callChain 24 = .ok (.aload_n 0, 1) := by decide +kernel
theorem dX11_callChain_25 : decode cX11_callChain 25 = .ok (.getfield 72, 3) := by decide +kernel
theorem dX11_callChain_28 : decode cX11_callChain 28 = .ok (.iload_n 3, 1) := by decide +kernel
theorem dX11_callChain_29 : decode cX11_callChain 29 = .ok (.laload, 1) := by decide +kernel
theorem dX11_callChain_30 : decode cX11_callChain 30 = .ok (.lastore, 1) := by decide +kernel
theorem dX11_callChain_31 : decode cX11_callChain 31 = .ok (.aload_n 0, 1) := by decide +kernel
theorem dX11_callChain_32 : decode cX11_callChain 32 = .ok (.getfield 38, 3) := by decide +kernel
theorem dX11_callChain_35 : decode cX11_callChain 35 = .ok (.iconst 4, 1) := by decide +kernel
theorem dX11_callChain_36 : decode cX11_callChain 36 = .ok (.iload_n 2, 1) := by decide +kernel
theorem dX11_callChain_37 : decode cX11_callChain 37 = .ok (.imul, 1) := by decide +kernel
theorem dX11_callChain_38 : decode cX11_callChain 38 = .ok (.iload_n 3, 1) := by decide +kernel
theorem dX11_callChain_39 : decode cX11_callChain 39 = .ok (.iadd, 1) := by decide +kernel
theorem dX11_callChain_40 : decode cX11_callChain 40 = .ok (.iaload, 1) := by decide +kernel
theorem dX11_callChain_41 : decode cX11_callChain 41 = .ok (.aload_n 0, 1) := by decide +kernel
theorem dX11_callChain_42 : decode cX11_callChain 42 = .ok (.getfield 72, 3) := by decide +kernel
theorem dX11_callChain_45 : decode cX11_callChain 45 = .ok (.iload_n 3, 1) := by decide +kernel
theorem dX11_callChain_46 : decode cX11_callChain 46 = .ok (.laload, 1) := by decide +kernel
theorem dX11_callChain_47 : decode cX11_callChain 47 = .ok (.invokestatic 176, 3) := by decide +kernel
theorem dX11_callChain_50 : decode cX11_callChain 50 = .ok (.ifCond .ne 12, 3) := by decide +kernel
theorem dX11_callChain_53 : decode cX11_callChain 53 = .ok (.aload_n 0, 1) := by decide +kernel
theorem dX11_callChain_54 : decode cX11_callChain 54 = .ok (.iconst 0, 1) := by decide +kernel
theorem dX11_callChain_55 : decode cX11_callChain 55 = .ok (.iconst (-1), 1) := by decide +kernel
theorem dX11_callChain_56 : decode cX11_callChain 56 = .ok (.invokevirtual 208, 3) := by decide +kernel
theorem dX11_callChain_59 : decode cX11_callChain 59 = .ok (.bipush (-7), 2) := by decide +kernel
theorem dX11_callChain_61 : decode cX11_callChain 61 = .ok (.ireturn, 1) := by decide +kernel
theorem dX11_callChain_62 : decode cX11_callChain 62 = .ok (.iinc 3 1, 3) := by decide +kernel
theorem dX11_callChain_65 : decode cX11_callChain 65 = .ok (.goto (-56), 3) := by decide +kernel
theorem dX11_callChain_68 : decode cX11_callChain 68 = .ok (.iconst 1, 1) := by decide +kernel
theorem dX11_callChain_69 : decode cX11_callChain 69 = .ok (.istore_n 3, 1) := by decide +kernel
theorem dX11_callChain_70 : decode cX11_callChain 70 = .ok (.iload_n 3, 1) := by decide +kernel
theorem dX11_callChain_71 : decode cX11_callChain 71 = .ok (.aload_n 0, 1) := by decide +kernel
theorem dX11_callChain_72 : decode cX11_callChain 72 = .ok (.getfield 287, 3) := by decide +kernel
theorem dX11_callChain_75 : decode cX11_callChain 75 = .ok (.if_icmp .ge 20, 3) := by decide +kernel
theorem dX11_callChain_78 : decode cX11_callChain 78 = .ok (.aload_n 0, 1) := by decide +kernel
theorem dX11_callChain_79 : decode cX11_callChain 79 = .ok (.iload_n 3, 1) := by decide +kernel
theorem dX11_callChain_80 : decode cX11_callChain 80 = .ok (.invokevirtual 300, 3) := by decide +kernel
theorem dX11_callChain_83 : decode cX11_callChain 83 = .ok (.ifCond .ne 6, 3) := by decide +kernel
theorem dX11_callChain_86 : decode cX11_callChain 86 = .ok (.bipush (-7), 2) := by decide +kernel
theorem dX11_callChain_88 : decode cX11_callChain 88 = .ok (.ireturn, 1) := by decide +kernel
theorem dX11_callChain_89 : decode cX11_callChain 89 = .ok (.iinc 3 1, 3) := by decide +kernel
theorem dX11_callChain_92 : decode cX11_callChain 92 = .ok (.goto (-22), 3) := by decide +kernel
theorem dX11_callChain_95 : decode cX11_callChain 95 = .ok (.aload_n 0, 1) := by decide +kernel
theorem dX11_callChain_96 : decode cX11_callChain 96 = .ok (.aload_n 0, 1) := by decide +kernel
theorem dX11_callChain_97 : decode cX11_callChain 97 = .ok (.getfield 111, 3) := by decide +kernel
theorem dX11_callChain_100 : decode cX11_callChain 100 = .ok (.aload_n 0, 1) := by decide +kernel
theorem dX11_callChain_101 : decode cX11_callChain 101 = .ok (.getfield 287, 3) := by decide +kernel
theorem dX11_callChain_104 : decode cX11_callChain 104 = .ok (.iconst 1, 1) := by decide +kernel
theorem dX11_callChain_105 : decode cX11_callChain 105 = .ok (.isub, 1) := by decide +kernel
theorem dX11_callChain_106 : decode cX11_callChain 106 = .ok (.iaload, 1) := by decide +kernel
theorem dX11_callChain_107 : decode cX11_callChain 107 = .ok (.iload_n 1, 1) := by decide +kernel
theorem dX11_callChain_108 : decode cX11_callChain 108 = .ok (.invokevirtual 303, 3) := by decide +kernel
theorem dX11_callChain_111 : decode cX11_callChain 111 = .ok (.ifCond .ne 12, 3) := by decide +kernel
theorem dX11_callChain_114 : decode cX11_callChain 114 = .ok (.aload_n 0, 1) := by decide +kernel
theorem dX11_callChain_115 : decode cX11_callChain 115 = .ok (.iconst 2, 1) := by decide +kernel
theorem dX11_callChain_116 : decode cX11_callChain 116 = .ok (.iconst (-1), 1) := by decide +kernel
theorem dX11_callChain_117 : decode cX11_callChain 117 = .ok (.invokevirtual 208, 3) := by decide +kernel
theorem dX11_callChain_120 : decode cX11_callChain 120 = .ok (.bipush (-7), 2) := by decide +kernel
theorem dX11_callChain_122 : decode cX11_callChain 122 = .ok (.ireturn, 1) := by decide +kernel
theorem dX11_callChain_123 : decode cX11_callChain 123 = .ok (.aload_n 0, 1) := by decide +kernel
theorem dX11_callChain_124 : decode cX11_callChain 124 = .ok (.getfield 287, 3) := by decide +kernel
theorem dX11_callChain_127 : decode cX11_callChain 127 = .ok (.iconst 1, 1) := by decide +kernel
theorem dX11_callChain_128 : decode cX11_callChain 128 = .ok (.isub, 1) := by decide +kernel
theorem dX11_callChain_129 : decode cX11_callChain 129 = .ok (.istore_n 3, 1) := by decide +kernel
theorem dX11_callChain_130 : decode cX11_callChain 130 = .ok (.iload_n 3, 1) := by decide +kernel
theorem dX11_callChain_131 : decode cX11_callChain 131 = .ok (.ifCond .le 56, 3) := by decide +kernel
theorem dX11_callChain_134 : decode cX11_callChain 134 = .ok (.aload_n 0, 1) := by decide +kernel
theorem dX11_callChain_135 : decode cX11_callChain 135 = .ok (.aload_n 0, 1) := by decide +kernel
theorem dX11_callChain_136 : decode cX11_callChain 136 = .ok (.getfield 41, 3) := by decide +kernel
theorem dX11_callChain_139 : decode cX11_callChain 139 = .ok (.aload_n 0, 1) := by decide +kernel
theorem dX11_callChain_140 : decode cX11_callChain 140 = .ok (.getfield 111, 3) := by decide +kernel
theorem dX11_callChain_143 : decode cX11_callChain 143 = .ok (.iload_n 3, 1) := by decide +kernel
theorem dX11_callChain_144 : decode cX11_callChain 144 = .ok (.iaload, 1) := by decide +kernel
theorem dX11_callChain_145 : decode cX11_callChain 145 = .ok (.iaload, 1) := by decide +kernel
theorem dX11_callChain_146 : decode cX11_callChain 146 = .ok (.aload_n 0, 1) := by decide +kernel
theorem dX11_callChain_147 : decode cX11_callChain 147 = .ok (.getfield 41, 3) := by decide +kernel
theorem dX11_callChain_150 : decode cX11_callChain 150 = .ok (.aload_n 0, 1) := by decide +kernel
theorem dX11_callChain_151 : decode cX11_callChain 151 = .ok (.getfield 111, 3) := by decide +kernel
theorem dX11_callChain_154 : decode cX11_callChain 154 = .ok (.iload_n 3, 1) := by decide +kernel
theorem dX11_callChain_155 : decode cX11_callChain 155 = .ok (.iconst 1, 1) := by decide +kernel
theorem dX11_callChain_156 : decode cX11_callChain 156 = .ok (.isub, 1) := by decide +kernel
theorem dX11_callChain_157 : decode cX11_callChain 157 = .ok (.iaload, 1) := by decide +kernel
theorem dX11_callChain_158 : decode cX11_callChain 158 = .ok (.iaload, 1) := by decide +kernel
theorem dX11_callChain_159 : decode cX11_callChain 159 = .ok (.aload_n 0, 1) := by decide +kernel
theorem dX11_callChain_160 : decode cX11_callChain 160 = .ok (.getfield 297, 3) := by decide +kernel
theorem dX11_callChain_163 : decode cX11_callChain 163 = .ok (.iconst 3, 1) := by decide +kernel
theorem dX11_callChain_164 : decode cX11_callChain 164 = .ok (.invokevirtual 212, 3) := by decide +kernel
theorem dX11_callChain_167 : decode cX11_callChain 167 = .ok (.ifCond .ne 6, 3) := by decide +kernel
theorem dX11_callChain_170 : decode cX11_callChain 170 = .ok (.bipush (-7), 2) := by decide +kernel
theorem dX11_callChain_172 : decode cX11_callChain 172 = .ok (.ireturn, 1) := by decide +kernel
theorem dX11_callChain_173 : decode cX11_callChain 173 = .ok (.aload_n 0, 1) := by decide +kernel
theorem dX11_callChain_174 : decode cX11_callChain 174 = .ok (.aload_n 0, 1) := by decide +kernel
theorem dX11_callChain_175 : decode cX11_callChain 175 = .ok (.getfield 202, 3) := by decide +kernel
