theorem dX11_callChain_178 : decode cX11_callChain 178 = .ok (.putfield 297, 3) := by decide +kernel
theorem dX11_callChain_181 : decode cX11_callChain 181 = .ok (.iinc 3 (-1), 3) := by decide +kernel
theorem dX11_callChain_184 : decode cX11_callChain 184 = .ok (.goto (-54), 3) := by decide +kernel
theorem dX11_callChain_187 : decode cX11_callChain 187 = .ok (.aload_n 0, 1) := by decide +kernel
theorem dX11_callChain_188 : decode cX11_callChain 188 = .ok (.aload_n 0, 1) := by decide +kernel
theorem dX11_callChain_189 : decode cX11_callChain 189 = .ok (.getfield 297, 3) := by decide +kernel
theorem dX11_callChain_192 : decode cX11_callChain 192 = .ok (.putfield 216, 3) := by decide +kernel
theorem dX11_callChain_195 : decode cX11_callChain 195 = .ok (.iconst 0, 1) := by decide +kernel
theorem dX11_callChain_196 : decode cX11_callChain 196 = .ok (.ireturn, 1) := by decide +kernel
theorem dX11_counted_0 : decode cX11_counted 0 = .ok (.aload_n 0, 1) := by decide +kernel
theorem dX11_counted_1 : decode cX11_counted 1 = .ok (.dup, 1) := by decide +kernel
theorem dX11_counted_2 : decode cX11_counted 2 = .ok (.getfield 306, 3) := by decide +kernel
theorem dX11_counted_5 : decode cX11_counted 5 = .ok (.iload_n 1, 1) := by decide +kernel
theorem dX11_counted_6 : decode cX11_counted 6 = .ok (.ifCond .ne 7, 3) := by decide +kernel
theorem dX11_counted_9 : decode cX11_counted 9 = .ok (.iconst 1, 1) := by decide +kernel
theorem dX11_counted_10 : decode cX11_counted 10 = .ok (.goto 4, 3) := by decide +kernel
theorem dX11_counted_13 : decode cX11_counted 13 = .ok (.iconst 0, 1) := by decide +kernel
theorem dX11_counted_14 : decode cX11_counted 14 = .ok (.iadd, 1) := by decide +kernel
theorem dX11_counted_15 : decode cX11_counted 15 = .ok (.putfield 306, 3) := by decide +kernel
theorem dX11_counted_18 : decode cX11_counted 18 = .ok (.aload_n 0, 1) := by decide +kernel
theorem dX11_counted_19 : decode cX11_counted 19 = .ok (.dup, 1) := by decide +kernel
theorem dX11_counted_20 : decode cX11_counted 20 = .ok (.getfield 309, 3) := by decide +kernel
theorem dX11_counted_23 : decode cX11_counted 23 = .ok (.iload_n 1, 1) := by decide +kernel
theorem dX11_counted_24 : decode cX11_counted 24 = .ok (.bipush (-7), 2) := by decide +kernel
theorem dX11_counted_26 : decode cX11_counted 26 = .ok (.if_icmp .ne 7, 3) := by decide +kernel
theorem dX11_counted_29 : decode cX11_counted 29 = .ok (.iconst 1, 1) := by decide +kernel
theorem dX11_counted_30 : decode cX11_counted 30 = .ok (.goto 4, 3) := by decide +kernel
theorem dX11_counted_33 : decode cX11_counted 33 = .ok (.iconst 0, 1) := by decide +kernel
theorem dX11_counted_34 : decode cX11_counted 34 = .ok (.iadd, 1) := by decide +kernel
theorem dX11_counted_35 : decode cX11_counted 35 = .ok (.putfield 309, 3) := by decide +kernel
theorem dX11_counted_38 : decode cX11_counted 38 = .ok (.iload_n 1, 1) := by decide +kernel
theorem dX11_counted_39 : decode cX11_counted 39 = .ok (.ireturn, 1) := by decide +kernel
theorem dX11_call_0 : decode cX11_call 0 = .ok (.aload_n 0, 1) := by decide +kernel
theorem dX11_call_1 : decode cX11_call 1 = .ok (.iconst 0, 1) := by decide +kernel
theorem dX11_call_2 : decode cX11_call 2 = .ok (.putfield 131, 3) := by decide +kernel
theorem dX11_call_5 : decode cX11_call 5 = .ok (.iload_n 1, 1) := by decide +kernel
theorem dX11_call_6 : decode cX11_call 6 = .ok (.i2l, 1) := by decide +kernel
theorem dX11_call_7 : decode cX11_call 7 = .ok (.lconst 0, 1) := by decide +kernel
theorem dX11_call_8 : decode cX11_call 8 = .ok (.aload_n 0, 1) := by decide +kernel
theorem dX11_call_9 : decode cX11_call 9 = .ok (.getfield 282, 3) := by decide +kernel
theorem dX11_call_12 : decode cX11_call 12 = .ok (.iconst 1, 1) := by decide +kernel
theorem dX11_call_13 : decode cX11_call 13 = .ok (.isub, 1) := by decide +kernel
theorem dX11_call_14 : decode cX11_call 14 = .ok (.i2l, 1) := by decide +kernel
theorem dX11_call_15 : decode cX11_call 15 = .ok (.invokestatic 138, 3) := by decide +kernel
theorem dX11_call_18 : decode cX11_call 18 = .ok (.ifCond .ne 6, 3) := by decide +kernel
theorem dX11_call_21 : decode cX11_call 21 = .ok (.bipush (-2), 2) := by decide +kernel
theorem dX11_call_23 : decode cX11_call 23 = .ok (.ireturn, 1) := by decide +kernel
theorem dX11_call_24 : decode cX11_call 24 = .ok (.iload_n 2, 1) := by decide +kernel
theorem dX11_call_25 : decode cX11_call 25 = .ok (.i2l, 1) := by decide +kernel
theorem dX11_call_26 : decode cX11_call 26 = .ok (.lconst 0, 1) := by decide +kernel
theorem dX11_call_27 : decode cX11_call 27 = .ok (.ldc2_w 221, 3) := by decide +kernel
theorem dX11_call_30 : decode cX11_call 30 = .ok (.invokestatic 138, 3) := by decide +kernel
theorem dX11_call_33 : decode cX11_call 33 = .ok (.ifCond .ne 6, 3) := by decide +kernel
theorem dX11_call_36 : decode cX11_call 36 = .ok (.bipush (-3), 2) := by decide +kernel
theorem dX11_call_38 : decode cX11_call 38 = .ok (.ireturn, 1) := by decide +kernel
theorem dX11_call_39 : decode cX11_call 39 = .ok (.aload_n 0, 1) := by decide +kernel
theorem dX11_call_40 : decode cX11_call 40 = .ok (.bipush 10, 2) := by decide +kernel
theorem dX11_call_42 : decode cX11_call 42 = .ok (.iload_n 2, 1) := by decide +kernel
theorem dX11_call_43 : decode cX11_call 43 = .ok (.iadd, 1) := by decide +kernel
theorem dX11_call_44 : decode cX11_call 44 = .ok (.iload_n 3, 1) := by decide +kernel
theorem dX11_call_45 : decode cX11_call 45 = .ok (.invokevirtual 235, 3) := by decide +kernel
theorem dX11_call_48 : decode cX11_call 48 = .ok (.ifCond .ne 6, 3) := by decide +kernel
theorem dX11_call_51 : decode cX11_call 51 = .ok (.bipush (-2), 2) := by decide +kernel
theorem dX11_call_53 : decode cX11_call 53 = .ok (.ireturn, 1) := by decide +kernel
theorem dX11_call_54 : decode cX11_call 54 = .ok (.aload_n 0, 1) := by decide +kernel
theorem dX11_call_55 : decode cX11_call 55 = .ok (.invokevirtual 189, 3) := by decide +kernel
theorem dX11_call_58 : decode cX11_call 58 = .ok (.aload_n 0, 1) := by decide +kernel
theorem dX11_call_59 : decode cX11_call 59 = .ok (.getfield 111, 3) := by decide +kernel
theorem dX11_call_62 : decode cX11_call 62 = .ok (.iconst 0, 1) := by decide +kernel
theorem dX11_call_63 : decode cX11_call 63 = .ok (.bipush 6, 2) := by decide +kernel
theorem dX11_call_65 : decode cX11_call 65 = .ok (.bipush 10, 2) := by decide +kernel
theorem dX11_call_67 : decode cX11_call 67 = .ok (.iload_n 2, 1) := by decide +kernel
theorem dX11_call_68 : decode cX11_call 68 = .ok (.iadd, 1) := by decide +kernel
theorem dX11_call_69 : decode cX11_call 69 = .ok (.imul, 1) := by decide +kernel
theorem dX11_call_70 : decode cX11_call 70 = .ok (.iload_n 3, 1) := by decide +kernel
theorem dX11_call_71 : decode cX11_call 71 = .ok (.iadd, 1) := by decide +kernel
theorem dX11_call_72 : decode cX11_call 72 = .ok (.iastore, 1) := by decide +kernel
theorem dX11_call_73 : decode cX11_call 73 = .ok (.aload_n 0, 1) := by decide +kernel
theorem dX11_call_74 : decode cX11_call 74 = .ok (.iconst 1, 1) := by decide +kernel
theorem dX11_call_75 : decode cX11_call 75 = .ok (.putfield 287, 3) := by decide +kernel
theorem dX11_call_78 : decode cX11_call 78 = .ok (.aload_n 0, 1) := by decide +kernel
theorem dX11_call_79 : decode cX11_call 79 = .ok (.aload_n 0, 1) := by decide +kernel
theorem dX11_call_80 : decode cX11_call 80 = .ok (.getfield 66, 3) := by decide +kernel
theorem dX11_call_83 : decode cX11_call 83 = .ok (.iload_n 1, 1) := by decide +kernel
theorem dX11_call_84 : decode cX11_call 84 = .ok (.iaload, 1) := by decide +kernel
theorem dX11_call_85 : decode cX11_call 85 = .ok (.invokevirtual 312, 3) := by decide +kernel
theorem dX11_call_88 : decode cX11_call 88 = .ok (.ifCond .eq 15, 3) := by decide +kernel
theorem dX11_call_91 : decode cX11_call 91 = .ok (.aload_n 0, 1) := by decide +kernel
theorem dX11_call_92 : decode cX11_call 92 = .ok (.aload_n 0, 1) := by decide +kernel
theorem dX11_call_93 : decode cX11_call 93 = .ok (.iload_n 1, 1) := by decide +kernel
theorem dX11_call_94 : decode cX11_call 94 = .ok (.invokevirtual 315, 3) := by decide +kernel
theorem dX11_call_97 : decode cX11_call 97 = .ok (.invokevirtual 319, 3) := by decide +kernel
theorem dX11_call_100 : decode cX11_call 100 = .ok (.goto 5, 3) := by decide +kernel
theorem dX11_call_103 : decode cX11_call 103 = .ok (.bipush (-6), 2) := by decide +kernel
theorem dX11_call_105 : decode cX11_call 105 = .ok (.ireturn, 1) := by decide +kernel
theorem dX11_through_0 : decode cX11_through 0 = .ok (.aload_n 0, 1) := by decide +kernel
theorem dX11_through_1 : decode cX11_through 1 = .ok (.iconst 0, 1) := by decide +kernel
theorem dX11_through_2 : decode cX11_through 2 = .ok (.putfield 131, 3) := by decide +kernel
theorem dX11_through_5 : decode cX11_through 5 = .ok (.iload_n 1, 1) := by decide +kernel
theorem dX11_through_6 : decode cX11_through 6 = .ok (.i2l, 1) := by decide +kernel
theorem dX11_through_7 : decode cX11_through 7 = .ok (.lconst 0, 1) := by decide +kernel
theorem dX11_through_8 : decode cX11_through 8 = .ok (.aload_n 0, 1) := by decide +kernel
theorem dX11_through_9 : decode cX11_through 9 = .ok (.getfield 282, 3) := by decide +kernel
theorem dX11_through_12 : decode cX11_through 12 = .ok (.iconst 1, 1) := by decide +kernel
theorem dX11_through_13 : decode cX11_through 13 = .ok (.isub, 1) := by decide +kernel
theorem dX11_through_14 : decode cX11_through 14 = .ok (.i2l, 1) := by decide +kernel
theorem dX11_through_15 : decode cX11_through 15 = .ok (.invokestatic 138, 3) := by decide +kernel
theorem dX11_through_18 : decode cX11_through 18 = .ok (.ifCond .ne 6, 3) := by decide +kernel
theorem dX11_through_21 : decode cX11_through 21 = .ok (.bipush (-2), 2) := by decide +kernel
theorem dX11_through_23 : decode cX11_through 23 = .ok (.ireturn, 1) := by decide +kernel
theorem dX11_through_24 : decode cX11_through 24 = .ok (.iload_n 2, 1) := by decide +kernel
theorem dX11_through_25 : decode cX11_through 25 = .ok (.i2l, 1) := by decide +kernel
theorem dX11_through_26 : decode cX11_through 26 = .ok (.lconst 0, 1) := by decide +kernel
theorem dX11_through_27 : decode cX11_through 27 = .ok (.ldc2_w 221, 3) := by decide +kernel
theorem dX11_through_30 : decode cX11_through 30 = .ok (.invokestatic 138, 3) := by decide +kernel
theorem dX11_through_33 : decode cX11_through 33 = .ok (.ifCond .eq 15, 3) := by decide +kernel
theorem dX11_through_36 : decode cX11_through 36 = .ok (.iload_n 3, 1) := by decide +kernel
theorem dX11_through_37 : decode cX11_through 37 = .ok (.i2l, 1) := by decide +kernel
theorem dX11_through_38 : decode cX11_through 38 = .ok (.lconst 0, 1) := by decide +kernel
theorem dX11_through_39 : decode cX11_through 39 = .ok (.ldc2_w 221, 3) := by decide +kernel
theorem dX11_through_42 : decode cX11_through 42 = .ok (.invokestatic 138, 3) := by decide +kernel
theorem dX11_through_45 : decode cX11_through 45 = .ok (.ifCond .ne 6, 3) := by decide +kernel
theorem dX11_through_48 : decode cX11_through 48 = .ok (.bipush (-3), 2) := by decide +kernel
theorem dX11_through_50 : decode cX11_through 50 = .ok (.ireturn, 1) := by decide +kernel
theorem dX11_through_51 : decode cX11_through 51 = .ok (.aload_n 0, 1) := by decide +kernel
theorem dX11_through_52 : decode cX11_through 52 = .ok (.invokevirtual 189, 3) := by decide +kernel
theorem dX11_through_55 : decode cX11_through 55 = .ok (.aload_n 0, 1) := by decide +kernel
theorem dX11_through_56 : decode cX11_through 56 = .ok (.iload_n 2, 1) := by decide +kernel
theorem dX11_through_57 : decode cX11_through 57 = .ok (.iload_n 3, 1) := by decide +kernel
theorem dX11_through_58 : decode cX11_through 58 = .ok (.invokevirtual 279, 3) := by decide +kernel
theorem dX11_through_61 : decode cX11_through 61 = .ok (.ldc 180, 2) := by decide +kernel
theorem dX11_through_63 : decode cX11_through 63 = .ok (.if_icmp .lt 5, 3) := by decide +kernel
theorem dX11_through_66 : decode cX11_through 66 = .ok (.iconst (-1), 1) := by decide +kernel
theorem dX11_through_67 : decode cX11_through 67 = .ok (.ireturn, 1) := by decide +kernel
theorem dX11_through_68 : decode cX11_through 68 = .ok (.aload_n 0, 1) := by decide +kernel
theorem dX11_through_69 : decode cX11_through 69 = .ok (.bipush 10, 2) := by decide +kernel
theorem dX11_through_71 : decode cX11_through 71 = .ok (.iload_n 3, 1) := by decide +kernel
theorem dX11_through_72 : decode cX11_through 72 = .ok (.iadd, 1) := by decide +kernel
theorem dX11_through_73 : decode cX11_through 73 = .ok (.iload 4, 2) := by decide +kernel
theorem dX11_through_75 : decode cX11_through 75 = .ok (.invokevirtual 235, 3) := by decide +kernel
theorem dX11_through_78 : decode cX11_through 78 = .ok (.ifCond .ne 6, 3) := by decide +kernel
theorem dX11_through_81 : decode cX11_through 81 = .ok (.bipush (-2), 2) := by decide +kernel
theorem dX11_through_83 : decode cX11_through 83 = .ok (.ireturn, 1) := by decide +kernel
theorem dX11_through_84 : decode cX11_through 84 = .ok (.aload_n 0, 1) := by decide +kernel
theorem dX11_through_85 : decode cX11_through 85 = .ok (.getfield 111, 3) := by decide +kernel
theorem dX11_through_88 : decode cX11_through 88 = .ok (.iconst 0, 1) := by decide +kernel
theorem dX11_through_89 : decode cX11_through 89 = .ok (.bipush 6, 2) := by decide +kernel
theorem dX11_through_91 : decode cX11_through 91 = .ok (.bipush 10, 2) := by decide +kernel
theorem dX11_through_93 : decode cX11_through 93 = .ok (.iload_n 3, 1) := by decide +kernel
theorem dX11_through_94 : decode cX11_through 94 = .ok (.iadd, 1) := by decide +kernel
theorem dX11_through_95 : decode cX11_through 95 = .ok (.imul, 1) := by decide +kernel
theorem dX11_through_96 : decode cX11_through 96 = .ok (.iload 4, 2) := by decide +kernel
theorem dX11_through_98 : decode cX11_through 98 = .ok (.iadd, 1) := by decide +kernel
theorem dX11_through_99 : decode cX11_through 99 = .ok (.iastore, 1) := by decide +kernel
theorem dX11_through_100 : decode cX11_through 100 = .ok (.aload_n 0, 1) := by decide +kernel
theorem dX11_through_101 : decode cX11_through 101 = .ok (.iconst 1, 1) := by decide +kernel
theorem dX11_through_102 : decode cX11_through 102 = .ok (.putfield 287, 3) := by decide +kernel
theorem dX11_through_105 : decode cX11_through 105 = .ok (.iconst 1, 1) := by decide +kernel
theorem dX11_through_106 : decode cX11_through 106 = .ok (.istore 5, 2) := by decide +kernel
theorem dX11_through_108 : decode cX11_through 108 = .ok (.aload_n 0, 1) := by decide +kernel
theorem dX11_through_109 : decode cX11_through 109 = .ok (.getfield 276, 3) := by decide +kernel
theorem dX11_through_112 : decode cX11_through 112 = .ok (.iconst 2, 1) := by decide +kernel
theorem dX11_through_113 : decode cX11_through 113 = .ok (.isub, 1) := by decide +kernel
theorem dX11_through_114 : decode cX11_through 114 = .ok (.istore 6, 2) := by decide +kernel
theorem dX11_through_116 : decode cX11_through 116 = .ok (.iload 6, 2) := by decide +kernel
theorem dX11_through_118 : decode cX11_through 118 = .ok (.ifCond .lt 30, 3) := by decide +kernel
theorem dX11_through_121 : decode cX11_through 121 = .ok (.iload 5, 2) := by decide +kernel
theorem dX11_through_123 : decode cX11_through 123 = .ok (.ifCond .eq 25, 3) := by decide +kernel
theorem dX11_through_126 : decode cX11_through 126 = .ok (.aload_n 0, 1) := by decide +kernel
theorem dX11_through_127 : decode cX11_through 127 = .ok (.bipush 10, 2) := by decide +kernel
theorem dX11_through_129 : decode cX11_through 129 = .ok (.aload_n 0, 1) := by decide +kernel
theorem dX11_through_130 : decode cX11_through 130 = .ok (.getfield 108, 3) := by decide +kernel
theorem dX11_through_133 : decode cX11_through 133 = .ok (.iload 6, 2) := by decide +kernel
theorem dX11_through_135 : decode cX11_through 135 = .ok (.iaload, 1) := by decide +kernel
theorem dX11_through_136 : decode cX11_through 136 = .ok (.iadd, 1) := by decide +kernel
theorem dX11_through_137 : decode cX11_through 137 = .ok (.invokevirtual 312, 3) := by decide +kernel
theorem dX11_through_140 : decode cX11_through 140 = .ok (.istore 5, 2) := by decide +kernel
theorem dX11_through_142 : decode cX11_through 142 = .ok (.iinc 6 (-1), 3) := by decide +kernel
theorem dX11_through_145 : decode cX11_through 145 = .ok (.goto (-29), 3) := by decide +kernel
theorem dX11_through_148 : decode cX11_through 148 = .ok (.iload 5, 2) := by decide +kernel
theorem dX11_through_150 : decode cX11_through 150 = .ok (.ifCond .eq 28, 3) := by decide +kernel
theorem dX11_through_153 : decode cX11_through 153 = .ok (.aload_n 0, 1) := by decide +kernel
theorem dX11_through_154 : decode cX11_through 154 = .ok (.aload_n 0, 1) := by decide +kernel
theorem dX11_through_155 : decode cX11_through 155 = .ok (.getfield 66, 3) := by decide +kernel
theorem dX11_through_158 : decode cX11_through 158 = .ok (.iload_n 1, 1) := by decide +kernel
theorem dX11_through_159 : decode cX11_through 159 = .ok (.iaload, 1) := by decide +kernel
theorem dX11_through_160 : decode cX11_through 160 = .ok (.invokevirtual 312, 3) := by decide +kernel
theorem dX11_through_163 : decode cX11_through 163 = .ok (.ifCond .eq 15, 3) := by decide +kernel
theorem dX11_through_166 : decode cX11_through 166 = .ok (.aload_n 0, 1) := by decide +kernel
theorem dX11_through_167 : decode cX11_through 167 = .ok (.aload_n 0, 1) := by decide +kernel
theorem dX11_through_168 : decode cX11_through 168 = .ok (.iload_n 1, 1) := by decide +kernel
theorem dX11_through_169 : decode cX11_through 169 = .ok (.invokevirtual 315, 3) := by decide +kernel
theorem dX11_through_172 : decode cX11_through 172 = .ok (.invokevirtual 319, 3) := by decide +kernel
theorem dX11_through_175 : decode cX11_through 175 = .ok (.goto 5, 3) := by decide +kernel
theorem dX11_through_178 : decode cX11_through 178 = .ok (.bipush (-6), 2) := by decide +kernel
theorem dX11_through_180 : decode cX11_through 180 = .ok (.ireturn, 1) := by decide +kernel
theorem dX11_value_0 : decode cX11_value 0 = .ok (.aload_n 0, 1) := by decide +kernel
theorem dX11_value_1 : decode cX11_value 1 = .ok (.iconst 0, 1) := by decide +kernel
theorem dX11_value_2 : decode cX11_value 2 = .ok (.putfield 131, 3) := by decide +kernel
theorem dX11_value_5 : decode cX11_value 5 = .ok (.aload_n 0, 1) := by decide +kernel
theorem dX11_value_6 : decode cX11_value 6 = .ok (.getfield 216, 3) := by decide +kernel
theorem dX11_value_9 : decode cX11_value 9 = .ok (.lreturn, 1) := by decide +kernel
theorem dX11_failed_0 : decode cX11_failed 0 = .ok (.aload_n 0, 1) := by decide +kernel
theorem dX11_failed_1 : decode cX11_failed 1 = .ok (.iconst 0, 1) := by decide +kernel
theorem dX11_failed_2 : decode cX11_failed 2 = .ok (.putfield 131, 3) := by decide +kernel
theorem dX11_failed_5 : decode cX11_failed 5 = .ok (.iload_n 1, 1) := by decide +kernel
theorem dX11_failed_6 : decode cX11_failed 6 = .ok (.i2l, 1) := by decide +kernel
theorem dX11_failed_7 : decode cX11_failed 7 = .ok (.lconst 0, 1) := by decide +kernel
theorem dX11_failed_8 : decode cX11_failed 8 = .ok (.lconst 1, 1) := by decide +kernel
theorem dX11_failed_9 : decode cX11_failed 9 = .ok (.invokestatic 138, 3) := by decide +kernel
theorem dX11_failed_12 : decode cX11_failed 12 = .ok (.ifCond .ne 6, 3) := by decide +kernel
theorem dX11_failed_15 : decode cX11_failed 15 = .ok (.bipush (-3), 2) := by decide +kernel
theorem dX11_failed_17 : decode cX11_failed 17 = .ok (.ireturn, 1) := by decide +kernel
theorem dX11_failed_18 : decode cX11_failed 18 = .ok (.aload_n 0, 1) := by decide +kernel
theorem dX11_failed_19 : decode cX11_failed 19 = .ok (.getfield 192, 3) := by decide +kernel
theorem dX11_failed_22 : decode cX11_failed 22 = .ok (.ifCond .ne 7, 3) := by decide +kernel
theorem dX11_failed_25 : decode cX11_failed 25 = .ok (.iconst (-1), 1) := by decide +kernel
theorem dX11_failed_26 : decode cX11_failed 26 = .ok (.goto 18, 3) := by decide +kernel
theorem dX11_failed_29 : decode cX11_failed 29 = .ok (.iload_n 1, 1) := by decide +kernel
theorem dX11_failed_30 : decode cX11_failed 30 = .ok (.ifCond .ne 10, 3) := by decide +kernel
theorem dX11_failed_33 : decode cX11_failed 33 = .ok (.aload_n 0, 1) := by decide +kernel
theorem dX11_failed_34 : decode cX11_failed 34 = .ok (.getfield 196, 3) := by decide +kernel
theorem dX11_failed_37 : decode cX11_failed 37 = .ok (.goto 7, 3) := by decide +kernel
theorem dX11_failed_40 : decode cX11_failed 40 = .ok (.aload_n 0, 1) := by decide +kernel
theorem dX11_failed_41 : decode cX11_failed 41 = .ok (.getfield 199, 3) := by decide +kernel
theorem dX11_failed_44 : decode cX11_failed 44 = .ok (.ireturn, 1) := by decide +kernel
theorem dX11_count_0 : decode cX11_count 0 = .ok (.aload_n 0, 1) := by decide +kernel
theorem dX11_count_1 : decode cX11_count 1 = .ok (.iconst 0, 1) := by decide +kernel
theorem dX11_count_2 : decode cX11_count 2 = .ok (.putfield 131, 3) := by decide +kernel
theorem dX11_count_5 : decode cX11_count 5 = .ok (.iconst 0, 1) := by decide +kernel
theorem dX11_count_6 : decode cX11_count 6 = .ok (.istore_n 2, 1) := by decide +kernel
theorem dX11_count_7 : decode cX11_count 7 = .ok (.iload_n 1, 1) := by decide +kernel
theorem dX11_count_8 : decode cX11_count 8 = .ok (.tableswitch 173 0 7 #[48, 83, 88, 93, 126, 126, 163, 168], 48) := by decide +kernel
theorem dX11_count_56 : decode cX11_count 56 = .ok (.iconst 0, 1) := by decide +kernel
theorem dX11_count_57 : decode cX11_count 57 = .ok (.istore_n 3, 1) := by decide +kernel
theorem dX11_count_58 : decode cX11_count 58 = .ok (.iload_n 3, 1) := by decide +kernel
theorem dX11_count_59 : decode cX11_count 59 = .ok (.aload_n 0, 1) := by decide +kernel
theorem dX11_count_60 : decode cX11_count 60 = .ok (.getfield 127, 3) := by decide +kernel
theorem dX11_count_63 : decode cX11_count 63 = .ok (.if_icmp .ge 26, 3) := by decide +kernel
theorem dX11_count_66 : decode cX11_count 66 = .ok (.iload_n 2, 1) := by decide +kernel
theorem dX11_count_67 : decode cX11_count 67 = .ok (.aload_n 0, 1) := by decide +kernel
theorem dX11_count_68 : decode cX11_count 68 = .ok (.getfield 25, 3) := by decide +kernel
theorem dX11_count_71 : decode cX11_count 71 = .ok (.iload_n 3, 1) := by decide +kernel
theorem dX11_count_72 : decode cX11_count 72 = .ok (.baload, 1) := by decide +kernel
theorem dX11_count_73 : decode cX11_count 73 = .ok (.ifCond .eq 7, 3) := by decide +kernel
theorem dX11_count_76 : decode cX11_count 76 = .ok (.iconst 1, 1) := by decide +kernel
theorem dX11_count_77 : decode cX11_count 77 = .ok (.goto 4, 3) := by decide +kernel
theorem dX11_count_80 : decode cX11_count 80 = .ok (.iconst 0, 1) := by decide +kernel
theorem dX11_count_81 : decode cX11_count 81 = .ok (.iadd, 1) := by decide +kernel
theorem dX11_count_82 : decode cX11_count 82 = .ok (.istore_n 2, 1) := by decide +kernel
theorem dX11_count_83 : decode cX11_count 83 = .ok (.iinc 3 1, 3) := by decide +kernel
theorem dX11_count_86 : decode cX11_count 86 = .ok (.goto (-28), 3) := by decide +kernel
theorem dX11_count_89 : decode cX11_count 89 = .ok (.iload_n 2, 1) := by decide +kernel
theorem dX11_count_90 : decode cX11_count 90 = .ok (.ireturn, 1) := by decide +kernel
theorem dX11_count_91 : decode cX11_count 91 = .ok (.aload_n 0, 1) := by decide +kernel
theorem dX11_count_92 : decode cX11_count 92 = .ok (.getfield 282, 3) := by decide +kernel
theorem dX11_count_95 : decode cX11_count 95 = .ok (.ireturn, 1) := by decide +kernel
theorem dX11_count_96 : decode cX11_count 96 = .ok (.aload_n 0, 1) := by decide +kernel
theorem dX11_count_97 : decode cX11_count 97 = .ok (.getfield 239, 3) := by decide +kernel
theorem dX11_count_100 : decode cX11_count 100 = .ok (.ireturn, 1) := by decide +kernel
theorem dX11_count_101 : decode cX11_count 101 = .ok (.iconst 0, 1) := by decide +kernel
theorem dX11_count_102 : decode cX11_count 102 = .ok (.istore_n 3, 1) := by decide +kernel
theorem dX11_count_103 : decode cX11_count 103 = .ok (.iload_n 3, 1) := by decide +kernel
theorem dX11_count_104 : decode cX11_count 104 = .ok (.bipush 7, 2) := by decide +kernel
theorem dX11_count_106 : decode cX11_count 106 = .ok (.if_icmp .ge 26, 3) := by decide +kernel
theorem dX11_count_109 : decode cX11_count 109 = .ok (.iload_n 2, 1) := by decide +kernel
theorem dX11_count_110 : decode cX11_count 110 = .ok (.aload_n 0, 1) := by decide +kernel
theorem dX11_count_111 : decode cX11_count 111 = .ok (.getfield 59, 3) := by decide +kernel
theorem dX11_count_114 : decode cX11_count 114 = .ok (.iload_n 3, 1) := by decide +kernel
theorem dX11_count_115 : decode cX11_count 115 = .ok (.baload, 1) := by decide +kernel
theorem dX11_count_116 : decode cX11_count 116 = .ok (.ifCond .eq 7, 3) := by decide +kernel
theorem dX11_count_119 : decode cX11_count 119 = .ok (.iconst 1, 1) := by decide +kernel
theorem dX11_count_120 : decode cX11_count 120 = .ok (.goto 4, 3) := by decide +kernel
theorem dX11_count_123 : decode cX11_count 123 = .ok (.iconst 0, 1) := by decide +kernel
theorem dX11_count_124 : decode cX11_count 124 = .ok (.iadd, 1) := by decide +kernel
theorem dX11_count_125 : decode cX11_count 125 = .ok (.istore_n 2, 1) := by decide +kernel
theorem dX11_count_126 : decode cX11_count 126 = .ok (.iinc 3 1, 3) := by decide +kernel
theorem dX11_count_129 : decode cX11_count 129 = .ok (.goto (-26), 3) := by decide +kernel
theorem dX11_count_132 : decode cX11_count 132 = .ok (.iload_n 2, 1) := by decide +kernel
theorem dX11_count_133 : decode cX11_count 133 = .ok (.ireturn, 1) := by decide +kernel
theorem dX11_count_134 : decode cX11_count 134 = .ok (.iconst 0, 1) := by decide +kernel
theorem dX11_count_135 : decode cX11_count 135 = .ok (.istore_n 3, 1) := by decide +kernel
theorem dX11_count_136 : decode cX11_count 136 = .ok (.iload_n 3, 1) := by decide +kernel
theorem dX11_count_137 : decode cX11_count 137 = .ok (.bipush 10, 2) := by decide +kernel
theorem dX11_count_139 : decode cX11_count 139 = .ok (.if_icmp .ge 30, 3) := by decide +kernel
theorem dX11_count_142 : decode cX11_count 142 = .ok (.iload_n 2, 1) := by decide +kernel
theorem dX11_count_143 : decode cX11_count 143 = .ok (.aload_n 0, 1) := by decide +kernel
theorem dX11_count_144 : decode cX11_count 144 = .ok (.getfield 29, 3) := by decide +kernel
theorem dX11_count_147 : decode cX11_count 147 = .ok (.iload_n 1, 1) := by decide +kernel
theorem dX11_count_148 : decode cX11_count 148 = .ok (.iconst 4, 1) := by decide +kernel
theorem dX11_count_149 : decode cX11_count 149 = .ok (.if_icmp .ne 10, 3) := by decide +kernel
theorem dX11_count_152 : decode cX11_count 152 = .ok (.bipush 10, 2) := by decide +kernel
theorem dX11_count_154 : decode cX11_count 154 = .ok (.iload_n 3, 1) := by decide +kernel
theorem dX11_count_155 : decode cX11_count 155 = .ok (.iadd, 1) := by decide +kernel
theorem dX11_count_156 : decode cX11_count 156 = .ok (.goto 4, 3) := by decide +kernel
theorem dX11_count_159 : decode cX11_count 159 = .ok (.iload_n 3, 1) := by decide +kernel
theorem dX11_count_160 : decode cX11_count 160 = .ok (.iaload, 1) := by decide +kernel
theorem dX11_count_161 : decode cX11_count 161 = .ok (.iadd, 1) := by decide +kernel
theorem dX11_count_162 : decode cX11_count 162 = .ok (.istore_n 2, 1) := by decide +kernel
theorem dX11_count_163 : decode cX11_count 163 = .ok (.iinc 3 1, 3) := by decide +kernel
theorem dX11_count_166 : decode cX11_count 166 = .ok (.goto (-30), 3) := by decide +kernel
theorem dX11_count_169 : decode cX11_count 169 = .ok (.iload_n 2, 1) := by decide +kernel
theorem dX11_count_170 : decode cX11_count 170 = .ok (.ireturn, 1) := by decide +kernel
theorem dX11_count_171 : decode cX11_count 171 = .ok (.aload_n 0, 1) := by decide +kernel
theorem dX11_count_172 : decode cX11_count 172 = .ok (.getfield 306, 3) := by decide +kernel
theorem dX11_count_175 : decode cX11_count 175 = .ok (.ireturn, 1) := by decide +kernel
theorem dX11_count_176 : decode cX11_count 176 = .ok (.aload_n 0, 1) := by decide +kernel
theorem dX11_count_177 : decode cX11_count 177 = .ok (.getfield 309, 3) := by decide +kernel
theorem dX11_count_180 : decode cX11_count 180 = .ok (.ireturn, 1) := by decide +kernel
theorem dX11_count_181 : decode cX11_count 181 = .ok (.bipush (-3), 2) := by decide +kernel
theorem dX11_count_183 : decode cX11_count 183 = .ok (.ireturn, 1) := by decide +kernel
theorem dJ6_bitCount_0f7a4_0 : decode cJ6_bitCount_0f7a4 0 = .ok (.iload_n 0, 1) := by decide +kernel
theorem dJ6_bitCount_0f7a4_1 : decode cJ6_bitCount_0f7a4 1 = .ok (.iload_n 0, 1) := by decide +kernel
theorem dJ6_bitCount_0f7a4_2 : decode cJ6_bitCount_0f7a4 2 = .ok (.iconst 1, 1) := by decide +kernel
theorem dJ6_bitCount_0f7a4_3 : decode cJ6_bitCount_0f7a4 3 = .ok (.iushr, 1) := by decide +kernel
theorem dJ6_bitCount_0f7a4_4 : decode cJ6_bitCount_0f7a4 4 = .ok (.ldc_w 265, 3) := by decide +kernel
theorem dJ6_bitCount_0f7a4_7 : decode cJ6_bitCount_0f7a4 7 = .ok (.iand, 1) := by decide +kernel
theorem dJ6_bitCount_0f7a4_8 : decode cJ6_bitCount_0f7a4 8 = .ok (.isub, 1) := by decide +kernel
theorem dJ6_bitCount_0f7a4_9 : decode cJ6_bitCount_0f7a4 9 = .ok (.istore_n 0, 1) := by decide +kernel
theorem dJ6_bitCount_0f7a4_10 : decode cJ6_bitCount_0f7a4 10 = .ok (.iload_n 0, 1) := by decide +kernel
theorem dJ6_bitCount_0f7a4_11 : decode cJ6_bitCount_0f7a4 11 = .ok (.ldc_w 266, 3) := by decide +kernel
theorem dJ6_bitCount_0f7a4_14 : decode cJ6_bitCount_0f7a4 14 = .ok (.iand, 1) := by decide +kernel
theorem dJ6_bitCount_0f7a4_15 : decode cJ6_bitCount_0f7a4 15 = .ok (.iload_n 0, 1) := by decide +kernel
theorem dJ6_bitCount_0f7a4_16 : decode cJ6_bitCount_0f7a4 16 = .ok (.iconst 2, 1) := by decide +kernel
theorem dJ6_bitCount_0f7a4_17 : decode cJ6_bitCount_0f7a4 17 = .ok (.iushr, 1) := by decide +kernel
theorem dJ6_bitCount_0f7a4_18 : decode cJ6_bitCount_0f7a4 18 = .ok (.ldc_w 266, 3) := by decide +kernel
theorem dJ6_bitCount_0f7a4_21 : decode cJ6_bitCount_0f7a4 21 = .ok (.iand, 1) := by decide +kernel
theorem dJ6_bitCount_0f7a4_22 : decode cJ6_bitCount_0f7a4 22 = .ok (.iadd, 1) := by decide +kernel
theorem dJ6_bitCount_0f7a4_23 : decode cJ6_bitCount_0f7a4 23 = .ok (.istore_n 0, 1) := by decide +kernel
theorem dJ6_bitCount_0f7a4_24 : decode cJ6_bitCount_0f7a4 24 = .ok (.iload_n 0, 1) := by decide +kernel
theorem dJ6_bitCount_0f7a4_25 : decode cJ6_bitCount_0f7a4 25 = .ok (.iload_n 0, 1) := by decide +kernel
theorem dJ6_bitCount_0f7a4_26 : decode cJ6_bitCount_0f7a4 26 = .ok (.iconst 4, 1) := by decide +kernel
theorem dJ6_bitCount_0f7a4_27 : decode cJ6_bitCount_0f7a4 27 = .ok (.iushr, 1) := by decide +kernel
theorem dJ6_bitCount_0f7a4_28 : decode cJ6_bitCount_0f7a4 28 = .ok (.iadd, 1) := by decide +kernel
theorem dJ6_bitCount_0f7a4_29 : decode cJ6_bitCount_0f7a4 29 = .ok (.ldc_w 267, 3) := by decide +kernel
theorem dJ6_bitCount_0f7a4_32 : decode cJ6_bitCount_0f7a4 32 = .ok (.iand, 1) := by decide +kernel
theorem dJ6_bitCount_0f7a4_33 : decode cJ6_bitCount_0f7a4 33 = .ok (.istore_n 0, 1) := by decide +kernel
theorem dJ6_bitCount_0f7a4_34 : decode cJ6_bitCount_0f7a4 34 = .ok (.iload_n 0, 1) := by decide +kernel
theorem dJ6_bitCount_0f7a4_35 : decode cJ6_bitCount_0f7a4 35 = .ok (.iload_n 0, 1) := by decide +kernel
theorem dJ6_bitCount_0f7a4_36 : decode cJ6_bitCount_0f7a4 36 = .ok (.bipush 8, 2) := by decide +kernel
theorem dJ6_bitCount_0f7a4_38 : decode cJ6_bitCount_0f7a4 38 = .ok (.iushr, 1) := by decide +kernel
theorem dJ6_bitCount_0f7a4_39 : decode cJ6_bitCount_0f7a4 39 = .ok (.iadd, 1) := by decide +kernel
theorem dJ6_bitCount_0f7a4_40 : decode cJ6_bitCount_0f7a4 40 = .ok (.istore_n 0, 1) := by decide +kernel
theorem dJ6_bitCount_0f7a4_41 : decode cJ6_bitCount_0f7a4 41 = .ok (.iload_n 0, 1) := by decide +kernel
theorem dJ6_bitCount_0f7a4_42 : decode cJ6_bitCount_0f7a4 42 = .ok (.iload_n 0, 1) := by decide +kernel
theorem dJ6_bitCount_0f7a4_43 : decode cJ6_bitCount_0f7a4 43 = .ok (.bipush 16, 2) := by decide +kernel
theorem dJ6_bitCount_0f7a4_45 : decode cJ6_bitCount_0f7a4 45 = .ok (.iushr, 1) := by decide +kernel
theorem dJ6_bitCount_0f7a4_46 : decode cJ6_bitCount_0f7a4 46 = .ok (.iadd, 1) := by decide +kernel
theorem dJ6_bitCount_0f7a4_47 : decode cJ6_bitCount_0f7a4 47 = .ok (.istore_n 0, 1) := by decide +kernel
theorem dJ6_bitCount_0f7a4_48 : decode cJ6_bitCount_0f7a4 48 = .ok (.iload_n 0, 1) := by decide +kernel
theorem dJ6_bitCount_0f7a4_49 : decode cJ6_bitCount_0f7a4 49 = .ok (.bipush 63, 2) := by decide +kernel
theorem dJ6_bitCount_0f7a4_51 : decode cJ6_bitCount_0f7a4 51 = .ok (.iand, 1) := by decide +kernel
theorem dJ6_bitCount_0f7a4_52 : decode cJ6_bitCount_0f7a4 52 = .ok (.ireturn, 1) := by decide +kernel
theorem dJ13_compare_74951_0 : decode cJ13_compare_74951 0 = .ok (.lload_n 0, 1) := by decide +kernel
theorem dJ13_compare_74951_1 : decode cJ13_compare_74951 1 = .ok (.lload_n 2, 1) := by decide +kernel
theorem dJ13_compare_74951_2 : decode cJ13_compare_74951 2 = .ok (.lcmp, 1) := by decide +kernel
theorem dJ13_compare_74951_3 : decode cJ13_compare_74951 3 = .ok (.ifCond .ge 7, 3) := by decide +kernel
theorem dJ13_compare_74951_6 : decode cJ13_compare_74951 6 = .ok (.iconst (-1), 1) := by decide +kernel
theorem dJ13_compare_74951_7 : decode cJ13_compare_74951 7 = .ok (.goto 14, 3) := by decide +kernel
theorem dJ13_compare_74951_10 : decode cJ13_compare_74951 10 = .ok (.lload_n 0, 1) := by decide +kernel
theorem dJ13_compare_74951_11 : decode cJ13_compare_74951 11 = .ok (.lload_n 2, 1) := by decide +kernel
theorem dJ13_compare_74951_12 : decode cJ13_compare_74951 12 = .ok (.lcmp, 1) := by decide +kernel
theorem dJ13_compare_74951_13 : decode cJ13_compare_74951 13 = .ok (.ifCond .ne 7, 3) := by decide +kernel
theorem dJ13_compare_74951_16 : decode cJ13_compare_74951 16 = .ok (.iconst 0, 1) := by decide +kernel
theorem dJ13_compare_74951_17 : decode cJ13_compare_74951 17 = .ok (.goto 4, 3) := by decide +kernel
theorem dJ13_compare_74951_20 : decode cJ13_compare_74951 20 = .ok (.iconst 1, 1) := by decide +kernel
theorem dJ13_compare_74951_21 : decode cJ13_compare_74951 21 = .ok (.ireturn, 1) := by decide +kernel
theorem dJ13_compareUnsigned_74951_0 : decode cJ13_compareUnsigned_74951 0 = .ok (.lload_n 0, 1) := by decide +kernel
theorem dJ13_compareUnsigned_74951_1 : decode cJ13_compareUnsigned_74951 1 = .ok (.ldc2_w 168, 3) := by decide +kernel
theorem dJ13_compareUnsigned_74951_4 : decode cJ13_compareUnsigned_74951 4 = .ok (.ladd, 1) := by decide +kernel
theorem dJ13_compareUnsigned_74951_5 : decode cJ13_compareUnsigned_74951 5 = .ok (.lload_n 2, 1) := by decide +kernel
theorem dJ13_compareUnsigned_74951_6 : decode cJ13_compareUnsigned_74951 6 = .ok (.ldc2_w 168, 3) := by decide +kernel
theorem dJ13_compareUnsigned_74951_9 : decode cJ13_compareUnsigned_74951 9 = .ok (.ladd, 1) := by decide +kernel
theorem dJ13_compareUnsigned_74951_10 : decode cJ13_compareUnsigned_74951 10 = .ok (.invokestatic 302, 3) := by decide +kernel
theorem dJ13_compareUnsigned_74951_13 : decode cJ13_compareUnsigned_74951 13 = .ok (.ireturn, 1) := by decide +kernel
theorem dJ9_multiplyHigh_f86c9_0 : decode cJ9_multiplyHigh_f86c9 0 = .ok (.lload_n 0, 1) := by decide +kernel
theorem dJ9_multiplyHigh_f86c9_1 : decode cJ9_multiplyHigh_f86c9 1 = .ok (.bipush 32, 2) := by decide +kernel
theorem dJ9_multiplyHigh_f86c9_3 : decode cJ9_multiplyHigh_f86c9 3 = .ok (.lshr, 1) := by decide +kernel
theorem dJ9_multiplyHigh_f86c9_4 : decode cJ9_multiplyHigh_f86c9 4 = .ok (.lstore 4, 2) := by decide +kernel
theorem dJ9_multiplyHigh_f86c9_6 : decode cJ9_multiplyHigh_f86c9 6 = .ok (.lload_n 0, 1) := by decide +kernel
theorem dJ9_multiplyHigh_f86c9_7 : decode cJ9_multiplyHigh_f86c9 7 = .ok (.ldc2_w 138, 3) := by decide +kernel
theorem dJ9_multiplyHigh_f86c9_10 : decode cJ9_multiplyHigh_f86c9 10 = .ok (.land, 1) := by decide +kernel
theorem dJ9_multiplyHigh_f86c9_11 : decode cJ9_multiplyHigh_f86c9 11 = .ok (.lstore 6, 2) := by decide +kernel
theorem dJ9_multiplyHigh_f86c9_13 : decode cJ9_multiplyHigh_f86c9 13 = .ok (.lload_n 2, 1) := by decide +kernel
theorem dJ9_multiplyHigh_f86c9_14 : decode cJ9_multiplyHigh_f86c9 14 = .ok (.bipush 32, 2) := by decide +kernel
theorem dJ9_multiplyHigh_f86c9_16 : decode cJ9_multiplyHigh_f86c9 16 = .ok (.lshr, 1) := by decide +kernel
theorem dJ9_multiplyHigh_f86c9_17 : decode cJ9_multiplyHigh_f86c9 17 = .ok (.lstore 8, 2) := by decide +kernel
theorem dJ9_multiplyHigh_f86c9_19 : decode cJ9_multiplyHigh_f86c9 19 = .ok (.lload_n 2, 1) := by decide +kernel
theorem dJ9_multiplyHigh_f86c9_20 : decode cJ9_multiplyHigh_f86c9 20 = .ok (.ldc2_w 138, 3) := by decide +kernel
theorem dJ9_multiplyHigh_f86c9_23 : decode cJ9_multiplyHigh_f86c9 23 = .ok (.land, 1) := by decide +kernel
theorem dJ9_multiplyHigh_f86c9_24 : decode cJ9_multiplyHigh_f86c9 24 = .ok (.lstore 10, 2) := by decide +kernel
theorem dJ9_multiplyHigh_f86c9_26 : decode cJ9_multiplyHigh_f86c9 26 = .ok (.lload 6, 2) := by decide +kernel
theorem dJ9_multiplyHigh_f86c9_28 : decode cJ9_multiplyHigh_f86c9 28 = .ok (.lload 10, 2) := by decide +kernel
theorem dJ9_multiplyHigh_f86c9_30 : decode cJ9_multiplyHigh_f86c9 30 = .ok (.lmul, 1) := by decide +kernel
theorem dJ9_multiplyHigh_f86c9_31 : decode cJ9_multiplyHigh_f86c9 31 = .ok (.lstore 12, 2) := by decide +kernel
theorem dJ9_multiplyHigh_f86c9_33 : decode cJ9_multiplyHigh_f86c9 33 = .ok (.lload 4, 2) := by decide +kernel
theorem dJ9_multiplyHigh_f86c9_35 : decode cJ9_multiplyHigh_f86c9 35 = .ok (.lload 10, 2) := by decide +kernel
theorem dJ9_multiplyHigh_f86c9_37 : decode cJ9_multiplyHigh_f86c9 37 = .ok (.lmul, 1) := by decide +kernel
theorem dJ9_multiplyHigh_f86c9_38 : decode cJ9_multiplyHigh_f86c9 38 = .ok (.lload 12, 2) := by decide +kernel
theorem dJ9_multiplyHigh_f86c9_40 : decode cJ9_multiplyHigh_f86c9 40 = .ok (.bipush 32, 2) := by decide +kernel
