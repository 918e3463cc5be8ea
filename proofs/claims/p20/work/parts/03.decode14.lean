theorem dX11_link_45 : decode cX11_link 45 = .ok (.iaload, 1) := by decide +kernel
theorem dX11_link_46 : decode cX11_link 46 = .ok (.iastore, 1) := by decide +kernel
theorem dX11_link_47 : decode cX11_link 47 = .ok (.iinc 2 1, 3) := by decide +kernel
theorem dX11_link_50 : decode cX11_link 50 = .ok (.goto (-27), 3) := by decide +kernel
theorem dX11_link_53 : decode cX11_link 53 = .ok (.aload_n 0, 1) := by decide +kernel
theorem dX11_link_54 : decode cX11_link 54 = .ok (.getfield 111, 3) := by decide +kernel
theorem dX11_link_57 : decode cX11_link 57 = .ok (.aload_n 0, 1) := by decide +kernel
theorem dX11_link_58 : decode cX11_link 58 = .ok (.getfield 287, 3) := by decide +kernel
theorem dX11_link_61 : decode cX11_link 61 = .ok (.bipush 6, 2) := by decide +kernel
theorem dX11_link_63 : decode cX11_link 63 = .ok (.iload_n 1, 1) := by decide +kernel
theorem dX11_link_64 : decode cX11_link 64 = .ok (.imul, 1) := by decide +kernel
theorem dX11_link_65 : decode cX11_link 65 = .ok (.aload_n 0, 1) := by decide +kernel
theorem dX11_link_66 : decode cX11_link 66 = .ok (.getfield 259, 3) := by decide +kernel
theorem dX11_link_69 : decode cX11_link 69 = .ok (.iadd, 1) := by decide +kernel
theorem dX11_link_70 : decode cX11_link 70 = .ok (.iastore, 1) := by decide +kernel
theorem dX11_link_71 : decode cX11_link 71 = .ok (.aload_n 0, 1) := by decide +kernel
theorem dX11_link_72 : decode cX11_link 72 = .ok (.dup, 1) := by decide +kernel
theorem dX11_link_73 : decode cX11_link 73 = .ok (.getfield 287, 3) := by decide +kernel
theorem dX11_link_76 : decode cX11_link 76 = .ok (.iconst 1, 1) := by decide +kernel
theorem dX11_link_77 : decode cX11_link 77 = .ok (.iadd, 1) := by decide +kernel
theorem dX11_link_78 : decode cX11_link 78 = .ok (.putfield 287, 3) := by decide +kernel
theorem dX11_link_81 : decode cX11_link 81 = .ok (.iconst 1, 1) := by decide +kernel
theorem dX11_link_82 : decode cX11_link 82 = .ok (.ireturn, 1) := by decide +kernel
theorem dX11_goIn_0 : decode cX11_goIn 0 = .ok (.aload_n 0, 1) := by decide +kernel
theorem dX11_goIn_1 : decode cX11_goIn 1 = .ok (.getfield 111, 3) := by decide +kernel
theorem dX11_goIn_4 : decode cX11_goIn 4 = .ok (.iload_n 1, 1) := by decide +kernel
theorem dX11_goIn_5 : decode cX11_goIn 5 = .ok (.iconst 1, 1) := by decide +kernel
theorem dX11_goIn_6 : decode cX11_goIn 6 = .ok (.isub, 1) := by decide +kernel
theorem dX11_goIn_7 : decode cX11_goIn 7 = .ok (.iaload, 1) := by decide +kernel
theorem dX11_goIn_8 : decode cX11_goIn 8 = .ok (.istore_n 2, 1) := by decide +kernel
theorem dX11_goIn_9 : decode cX11_goIn 9 = .ok (.aload_n 0, 1) := by decide +kernel
theorem dX11_goIn_10 : decode cX11_goIn 10 = .ok (.getfield 111, 3) := by decide +kernel
theorem dX11_goIn_13 : decode cX11_goIn 13 = .ok (.iload_n 1, 1) := by decide +kernel
theorem dX11_goIn_14 : decode cX11_goIn 14 = .ok (.iaload, 1) := by decide +kernel
theorem dX11_goIn_15 : decode cX11_goIn 15 = .ok (.istore_n 3, 1) := by decide +kernel
theorem dX11_goIn_16 : decode cX11_goIn 16 = .ok (.iconst 0, 1) := by decide +kernel
theorem dX11_goIn_17 : decode cX11_goIn 17 = .ok (.istore 4, 2) := by decide +kernel
theorem dX11_goIn_19 : decode cX11_goIn 19 = .ok (.iload 4, 2) := by decide +kernel
theorem dX11_goIn_21 : decode cX11_goIn 21 = .ok (.aload_n 0, 1) := by decide +kernel
theorem dX11_goIn_22 : decode cX11_goIn 22 = .ok (.getfield 35, 3) := by decide +kernel
theorem dX11_goIn_25 : decode cX11_goIn 25 = .ok (.iload_n 3, 1) := by decide +kernel
theorem dX11_goIn_26 : decode cX11_goIn 26 = .ok (.iaload, 1) := by decide +kernel
theorem dX11_goIn_27 : decode cX11_goIn 27 = .ok (.if_icmp .ge 99, 3) := by decide +kernel
theorem dX11_goIn_30 : decode cX11_goIn 30 = .ok (.aload_n 0, 1) := by decide +kernel
theorem dX11_goIn_31 : decode cX11_goIn 31 = .ok (.getfield 38, 3) := by decide +kernel
theorem dX11_goIn_34 : decode cX11_goIn 34 = .ok (.iconst 4, 1) := by decide +kernel
theorem dX11_goIn_35 : decode cX11_goIn 35 = .ok (.iload_n 3, 1) := by decide +kernel
theorem dX11_goIn_36 : decode cX11_goIn 36 = .ok (.imul, 1) := by decide +kernel
theorem dX11_goIn_37 : decode cX11_goIn 37 = .ok (.iload 4, 2) := by decide +kernel
theorem dX11_goIn_39 : decode cX11_goIn 39 = .ok (.iadd, 1) := by decide +kernel
theorem dX11_goIn_40 : decode cX11_goIn 40 = .ok (.iaload, 1) := by decide +kernel
theorem dX11_goIn_41 : decode cX11_goIn 41 = .ok (.istore 5, 2) := by decide +kernel
theorem dX11_goIn_43 : decode cX11_goIn 43 = .ok (.aload_n 0, 1) := by decide +kernel
theorem dX11_goIn_44 : decode cX11_goIn 44 = .ok (.getfield 114, 3) := by decide +kernel
theorem dX11_goIn_47 : decode cX11_goIn 47 = .ok (.iconst 4, 1) := by decide +kernel
theorem dX11_goIn_48 : decode cX11_goIn 48 = .ok (.iload_n 1, 1) := by decide +kernel
theorem dX11_goIn_49 : decode cX11_goIn 49 = .ok (.imul, 1) := by decide +kernel
theorem dX11_goIn_50 : decode cX11_goIn 50 = .ok (.iload 4, 2) := by decide +kernel
theorem dX11_goIn_52 : decode cX11_goIn 52 = .ok (.iadd, 1) := by decide +kernel
theorem dX11_goIn_53 : decode cX11_goIn 53 = .ok (.iaload, 1) := by decide +kernel
theorem dX11_goIn_54 : decode cX11_goIn 54 = .ok (.istore 6, 2) := by decide +kernel
theorem dX11_goIn_56 : decode cX11_goIn 56 = .ok (.iload 6, 2) := by decide +kernel
theorem dX11_goIn_58 : decode cX11_goIn 58 = .ok (.iconst 4, 1) := by decide +kernel
theorem dX11_goIn_59 : decode cX11_goIn 59 = .ok (.if_icmp .ne 20, 3) := by decide +kernel
theorem dX11_goIn_62 : decode cX11_goIn 62 = .ok (.aload_n 0, 1) := by decide +kernel
theorem dX11_goIn_63 : decode cX11_goIn 63 = .ok (.getfield 120, 3) := by decide +kernel
theorem dX11_goIn_66 : decode cX11_goIn 66 = .ok (.iload 4, 2) := by decide +kernel
theorem dX11_goIn_68 : decode cX11_goIn 68 = .ok (.aload_n 0, 1) := by decide +kernel
theorem dX11_goIn_69 : decode cX11_goIn 69 = .ok (.getfield 62, 3) := by decide +kernel
theorem dX11_goIn_72 : decode cX11_goIn 72 = .ok (.iload 5, 2) := by decide +kernel
theorem dX11_goIn_74 : decode cX11_goIn 74 = .ok (.laload, 1) := by decide +kernel
theorem dX11_goIn_75 : decode cX11_goIn 75 = .ok (.lastore, 1) := by decide +kernel
theorem dX11_goIn_76 : decode cX11_goIn 76 = .ok (.goto 44, 3) := by decide +kernel
theorem dX11_goIn_79 : decode cX11_goIn 79 = .ok (.aload_n 0, 1) := by decide +kernel
theorem dX11_goIn_80 : decode cX11_goIn 80 = .ok (.aload_n 0, 1) := by decide +kernel
theorem dX11_goIn_81 : decode cX11_goIn 81 = .ok (.getfield 38, 3) := by decide +kernel
theorem dX11_goIn_84 : decode cX11_goIn 84 = .ok (.iconst 4, 1) := by decide +kernel
theorem dX11_goIn_85 : decode cX11_goIn 85 = .ok (.iload_n 2, 1) := by decide +kernel
theorem dX11_goIn_86 : decode cX11_goIn 86 = .ok (.imul, 1) := by decide +kernel
theorem dX11_goIn_87 : decode cX11_goIn 87 = .ok (.iload 6, 2) := by decide +kernel
theorem dX11_goIn_89 : decode cX11_goIn 89 = .ok (.iadd, 1) := by decide +kernel
theorem dX11_goIn_90 : decode cX11_goIn 90 = .ok (.iaload, 1) := by decide +kernel
theorem dX11_goIn_91 : decode cX11_goIn 91 = .ok (.iload 5, 2) := by decide +kernel
theorem dX11_goIn_93 : decode cX11_goIn 93 = .ok (.aload_n 0, 1) := by decide +kernel
theorem dX11_goIn_94 : decode cX11_goIn 94 = .ok (.getfield 117, 3) := by decide +kernel
theorem dX11_goIn_97 : decode cX11_goIn 97 = .ok (.iload 6, 2) := by decide +kernel
theorem dX11_goIn_99 : decode cX11_goIn 99 = .ok (.laload, 1) := by decide +kernel
theorem dX11_goIn_100 : decode cX11_goIn 100 = .ok (.iconst 1, 1) := by decide +kernel
theorem dX11_goIn_101 : decode cX11_goIn 101 = .ok (.invokevirtual 212, 3) := by decide +kernel
theorem dX11_goIn_104 : decode cX11_goIn 104 = .ok (.ifCond .ne 5, 3) := by decide +kernel
theorem dX11_goIn_107 : decode cX11_goIn 107 = .ok (.iconst 0, 1) := by decide +kernel
theorem dX11_goIn_108 : decode cX11_goIn 108 = .ok (.ireturn, 1) := by decide +kernel
theorem dX11_goIn_109 : decode cX11_goIn 109 = .ok (.aload_n 0, 1) := by decide +kernel
theorem dX11_goIn_110 : decode cX11_goIn 110 = .ok (.getfield 120, 3) := by decide +kernel
theorem dX11_goIn_113 : decode cX11_goIn 113 = .ok (.iload 4, 2) := by decide +kernel
theorem dX11_goIn_115 : decode cX11_goIn 115 = .ok (.aload_n 0, 1) := by decide +kernel
theorem dX11_goIn_116 : decode cX11_goIn 116 = .ok (.getfield 202, 3) := by decide +kernel
theorem dX11_goIn_119 : decode cX11_goIn 119 = .ok (.lastore, 1) := by decide +kernel
theorem dX11_goIn_120 : decode cX11_goIn 120 = .ok (.iinc 4 1, 3) := by decide +kernel
theorem dX11_goIn_123 : decode cX11_goIn 123 = .ok (.goto (-104), 3) := by decide +kernel
theorem dX11_goIn_126 : decode cX11_goIn 126 = .ok (.iconst 0, 1) := by decide +kernel
theorem dX11_goIn_127 : decode cX11_goIn 127 = .ok (.istore 4, 2) := by decide +kernel
theorem dX11_goIn_129 : decode cX11_goIn 129 = .ok (.iload 4, 2) := by decide +kernel
theorem dX11_goIn_131 : decode cX11_goIn 131 = .ok (.aload_n 0, 1) := by decide +kernel
theorem dX11_goIn_132 : decode cX11_goIn 132 = .ok (.getfield 35, 3) := by decide +kernel
theorem dX11_goIn_135 : decode cX11_goIn 135 = .ok (.iload_n 3, 1) := by decide +kernel
theorem dX11_goIn_136 : decode cX11_goIn 136 = .ok (.iaload, 1) := by decide +kernel
theorem dX11_goIn_137 : decode cX11_goIn 137 = .ok (.if_icmp .ge 23, 3) := by decide +kernel
theorem dX11_goIn_140 : decode cX11_goIn 140 = .ok (.aload_n 0, 1) := by decide +kernel
theorem dX11_goIn_141 : decode cX11_goIn 141 = .ok (.getfield 117, 3) := by decide +kernel
theorem dX11_goIn_144 : decode cX11_goIn 144 = .ok (.iload 4, 2) := by decide +kernel
theorem dX11_goIn_146 : decode cX11_goIn 146 = .ok (.aload_n 0, 1) := by decide +kernel
theorem dX11_goIn_147 : decode cX11_goIn 147 = .ok (.getfield 120, 3) := by decide +kernel
theorem dX11_goIn_150 : decode cX11_goIn 150 = .ok (.iload 4, 2) := by decide +kernel
theorem dX11_goIn_152 : decode cX11_goIn 152 = .ok (.laload, 1) := by decide +kernel
theorem dX11_goIn_153 : decode cX11_goIn 153 = .ok (.lastore, 1) := by decide +kernel
theorem dX11_goIn_154 : decode cX11_goIn 154 = .ok (.iinc 4 1, 3) := by decide +kernel
theorem dX11_goIn_157 : decode cX11_goIn 157 = .ok (.goto (-28), 3) := by decide +kernel
theorem dX11_goIn_160 : decode cX11_goIn 160 = .ok (.iconst 1, 1) := by decide +kernel
theorem dX11_goIn_161 : decode cX11_goIn 161 = .ok (.ireturn, 1) := by decide +kernel
theorem dX11_plus_0 : decode cX11_plus 0 = .ok (.aload_n 0, 1) := by decide +kernel
theorem dX11_plus_1 : decode cX11_plus 1 = .ok (.getfield 290, 3) := by decide +kernel
theorem dX11_plus_4 : decode cX11_plus 4 = .ok (.lload_n 1, 1) := by decide +kernel
theorem dX11_plus_5 : decode cX11_plus 5 = .ok (.ladd, 1) := by decide +kernel
theorem dX11_plus_6 : decode cX11_plus 6 = .ok (.lstore_n 3, 1) := by decide +kernel
theorem dX11_plus_7 : decode cX11_plus 7 = .ok (.aload_n 0, 1) := by decide +kernel
theorem dX11_plus_8 : decode cX11_plus 8 = .ok (.getfield 290, 3) := by decide +kernel
theorem dX11_plus_11 : decode cX11_plus 11 = .ok (.lload_n 3, 1) := by decide +kernel
theorem dX11_plus_12 : decode cX11_plus 12 = .ok (.lxor, 1) := by decide +kernel
theorem dX11_plus_13 : decode cX11_plus 13 = .ok (.lload_n 1, 1) := by decide +kernel
theorem dX11_plus_14 : decode cX11_plus 14 = .ok (.lload_n 3, 1) := by decide +kernel
theorem dX11_plus_15 : decode cX11_plus 15 = .ok (.lxor, 1) := by decide +kernel
theorem dX11_plus_16 : decode cX11_plus 16 = .ok (.land, 1) := by decide +kernel
theorem dX11_plus_17 : decode cX11_plus 17 = .ok (.lconst 0, 1) := by decide +kernel
theorem dX11_plus_18 : decode cX11_plus 18 = .ok (.lcmp, 1) := by decide +kernel
theorem dX11_plus_19 : decode cX11_plus 19 = .ok (.ifCond .lt 7, 3) := by decide +kernel
theorem dX11_plus_22 : decode cX11_plus 22 = .ok (.iconst 1, 1) := by decide +kernel
theorem dX11_plus_23 : decode cX11_plus 23 = .ok (.goto 4, 3) := by decide +kernel
theorem dX11_plus_26 : decode cX11_plus 26 = .ok (.iconst 0, 1) := by decide +kernel
theorem dX11_plus_27 : decode cX11_plus 27 = .ok (.istore 5, 2) := by decide +kernel
theorem dX11_plus_29 : decode cX11_plus 29 = .ok (.aload_n 0, 1) := by decide +kernel
theorem dX11_plus_30 : decode cX11_plus 30 = .ok (.lload_n 3, 1) := by decide +kernel
theorem dX11_plus_31 : decode cX11_plus 31 = .ok (.putfield 290, 3) := by decide +kernel
theorem dX11_plus_34 : decode cX11_plus 34 = .ok (.iload 5, 2) := by decide +kernel
theorem dX11_plus_36 : decode cX11_plus 36 = .ok (.ireturn, 1) := by decide +kernel
theorem dX11_doWork_0 : decode cX11_doWork 0 = .ok (.iconst 3, 1) := by decide +kernel
theorem dX11_doWork_1 : decode cX11_doWork 1 = .ok (.iload_n 2, 1) := by decide +kernel
theorem dX11_doWork_2 : decode cX11_doWork 2 = .ok (.imul, 1) := by decide +kernel
theorem dX11_doWork_3 : decode cX11_doWork 3 = .ok (.aload_n 0, 1) := by decide +kernel
theorem dX11_doWork_4 : decode cX11_doWork 4 = .ok (.getfield 47, 3) := by decide +kernel
theorem dX11_doWork_7 : decode cX11_doWork 7 = .ok (.iload_n 1, 1) := by decide +kernel
theorem dX11_doWork_8 : decode cX11_doWork 8 = .ok (.iaload, 1) := by decide +kernel
theorem dX11_doWork_9 : decode cX11_doWork 9 = .ok (.iadd, 1) := by decide +kernel
theorem dX11_doWork_10 : decode cX11_doWork 10 = .ok (.istore_n 3, 1) := by decide +kernel
theorem dX11_doWork_11 : decode cX11_doWork 11 = .ok (.aload_n 0, 1) := by decide +kernel
theorem dX11_doWork_12 : decode cX11_doWork 12 = .ok (.aload_n 0, 1) := by decide +kernel
theorem dX11_doWork_13 : decode cX11_doWork 13 = .ok (.getfield 44, 3) := by decide +kernel
theorem dX11_doWork_16 : decode cX11_doWork 16 = .ok (.iload_n 1, 1) := by decide +kernel
theorem dX11_doWork_17 : decode cX11_doWork 17 = .ok (.iaload, 1) := by decide +kernel
theorem dX11_doWork_18 : decode cX11_doWork 18 = .ok (.ifCond .ne 13, 3) := by decide +kernel
theorem dX11_doWork_21 : decode cX11_doWork 21 = .ok (.aload_n 0, 1) := by decide +kernel
theorem dX11_doWork_22 : decode cX11_doWork 22 = .ok (.getfield 50, 3) := by decide +kernel
theorem dX11_doWork_25 : decode cX11_doWork 25 = .ok (.iload_n 1, 1) := by decide +kernel
theorem dX11_doWork_26 : decode cX11_doWork 26 = .ok (.iaload, 1) := by decide +kernel
theorem dX11_doWork_27 : decode cX11_doWork 27 = .ok (.i2l, 1) := by decide +kernel
theorem dX11_doWork_28 : decode cX11_doWork 28 = .ok (.goto 4, 3) := by decide +kernel
theorem dX11_doWork_31 : decode cX11_doWork 31 = .ok (.lconst 0, 1) := by decide +kernel
theorem dX11_doWork_32 : decode cX11_doWork 32 = .ok (.putfield 290, 3) := by decide +kernel
theorem dX11_doWork_35 : decode cX11_doWork 35 = .ok (.iconst 1, 1) := by decide +kernel
theorem dX11_doWork_36 : decode cX11_doWork 36 = .ok (.istore 4, 2) := by decide +kernel
theorem dX11_doWork_38 : decode cX11_doWork 38 = .ok (.iconst 0, 1) := by decide +kernel
theorem dX11_doWork_39 : decode cX11_doWork 39 = .ok (.istore 5, 2) := by decide +kernel
theorem dX11_doWork_41 : decode cX11_doWork 41 = .ok (.iload 5, 2) := by decide +kernel
theorem dX11_doWork_43 : decode cX11_doWork 43 = .ok (.aload_n 0, 1) := by decide +kernel
theorem dX11_doWork_44 : decode cX11_doWork 44 = .ok (.getfield 35, 3) := by decide +kernel
theorem dX11_doWork_47 : decode cX11_doWork 47 = .ok (.iload_n 1, 1) := by decide +kernel
theorem dX11_doWork_48 : decode cX11_doWork 48 = .ok (.iaload, 1) := by decide +kernel
theorem dX11_doWork_49 : decode cX11_doWork 49 = .ok (.if_icmp .ge 100, 3) := by decide +kernel
theorem dX11_doWork_52 : decode cX11_doWork 52 = .ok (.aload_n 0, 1) := by decide +kernel
theorem dX11_doWork_53 : decode cX11_doWork 53 = .ok (.getfield 44, 3) := by decide +kernel
theorem dX11_doWork_56 : decode cX11_doWork 56 = .ok (.iload_n 1, 1) := by decide +kernel
theorem dX11_doWork_57 : decode cX11_doWork 57 = .ok (.iaload, 1) := by decide +kernel
theorem dX11_doWork_58 : decode cX11_doWork 58 = .ok (.iconst 1, 1) := by decide +kernel
theorem dX11_doWork_59 : decode cX11_doWork 59 = .ok (.if_icmp .eq 90, 3) := by decide +kernel
theorem dX11_doWork_62 : decode cX11_doWork 62 = .ok (.aload_n 0, 1) := by decide +kernel
theorem dX11_doWork_63 : decode cX11_doWork 63 = .ok (.getfield 44, 3) := by decide +kernel
theorem dX11_doWork_66 : decode cX11_doWork 66 = .ok (.iload_n 1, 1) := by decide +kernel
theorem dX11_doWork_67 : decode cX11_doWork 67 = .ok (.iaload, 1) := by decide +kernel
theorem dX11_doWork_68 : decode cX11_doWork 68 = .ok (.ifCond .ne 18, 3) := by decide +kernel
theorem dX11_doWork_71 : decode cX11_doWork 71 = .ok (.aload_n 0, 1) := by decide +kernel
theorem dX11_doWork_72 : decode cX11_doWork 72 = .ok (.getfield 53, 3) := by decide +kernel
theorem dX11_doWork_75 : decode cX11_doWork 75 = .ok (.iconst 4, 1) := by decide +kernel
theorem dX11_doWork_76 : decode cX11_doWork 76 = .ok (.iload_n 1, 1) := by decide +kernel
theorem dX11_doWork_77 : decode cX11_doWork 77 = .ok (.imul, 1) := by decide +kernel
theorem dX11_doWork_78 : decode cX11_doWork 78 = .ok (.iload 5, 2) := by decide +kernel
theorem dX11_doWork_80 : decode cX11_doWork 80 = .ok (.iadd, 1) := by decide +kernel
theorem dX11_doWork_81 : decode cX11_doWork 81 = .ok (.iaload, 1) := by decide +kernel
theorem dX11_doWork_82 : decode cX11_doWork 82 = .ok (.i2l, 1) := by decide +kernel
theorem dX11_doWork_83 : decode cX11_doWork 83 = .ok (.goto 4, 3) := by decide +kernel
theorem dX11_doWork_86 : decode cX11_doWork 86 = .ok (.lconst 1, 1) := by decide +kernel
theorem dX11_doWork_87 : decode cX11_doWork 87 = .ok (.lstore 6, 2) := by decide +kernel
theorem dX11_doWork_89 : decode cX11_doWork 89 = .ok (.aload_n 0, 1) := by decide +kernel
theorem dX11_doWork_90 : decode cX11_doWork 90 = .ok (.getfield 117, 3) := by decide +kernel
theorem dX11_doWork_93 : decode cX11_doWork 93 = .ok (.iload 5, 2) := by decide +kernel
theorem dX11_doWork_95 : decode cX11_doWork 95 = .ok (.laload, 1) := by decide +kernel
theorem dX11_doWork_96 : decode cX11_doWork 96 = .ok (.lload 6, 2) := by decide +kernel
theorem dX11_doWork_98 : decode cX11_doWork 98 = .ok (.lmul, 1) := by decide +kernel
theorem dX11_doWork_99 : decode cX11_doWork 99 = .ok (.lstore 8, 2) := by decide +kernel
theorem dX11_doWork_101 : decode cX11_doWork 101 = .ok (.iload 4, 2) := by decide +kernel
theorem dX11_doWork_103 : decode cX11_doWork 103 = .ok (.ifCond .eq 37, 3) := by decide +kernel
theorem dX11_doWork_106 : decode cX11_doWork 106 = .ok (.aload_n 0, 1) := by decide +kernel
theorem dX11_doWork_107 : decode cX11_doWork 107 = .ok (.getfield 117, 3) := by decide +kernel
theorem dX11_doWork_110 : decode cX11_doWork 110 = .ok (.iload 5, 2) := by decide +kernel
theorem dX11_doWork_112 : decode cX11_doWork 112 = .ok (.laload, 1) := by decide +kernel
theorem dX11_doWork_113 : decode cX11_doWork 113 = .ok (.lload 6, 2) := by decide +kernel
theorem dX11_doWork_115 : decode cX11_doWork 115 = .ok (.invokestatic 164, 3) := by decide +kernel
theorem dX11_doWork_118 : decode cX11_doWork 118 = .ok (.lload 8, 2) := by decide +kernel
theorem dX11_doWork_120 : decode cX11_doWork 120 = .ok (.bipush 63, 2) := by decide +kernel
theorem dX11_doWork_122 : decode cX11_doWork 122 = .ok (.lshr, 1) := by decide +kernel
theorem dX11_doWork_123 : decode cX11_doWork 123 = .ok (.lcmp, 1) := by decide +kernel
theorem dX11_doWork_124 : decode cX11_doWork 124 = .ok (.ifCond .ne 16, 3) := by decide +kernel
theorem dX11_doWork_127 : decode cX11_doWork 127 = .ok (.aload_n 0, 1) := by decide +kernel
theorem dX11_doWork_128 : decode cX11_doWork 128 = .ok (.lload 8, 2) := by decide +kernel
theorem dX11_doWork_130 : decode cX11_doWork 130 = .ok (.invokevirtual 293, 3) := by decide +kernel
theorem dX11_doWork_133 : decode cX11_doWork 133 = .ok (.ifCond .eq 7, 3) := by decide +kernel
theorem dX11_doWork_136 : decode cX11_doWork 136 = .ok (.iconst 1, 1) := by decide +kernel
theorem dX11_doWork_137 : decode cX11_doWork 137 = .ok (.goto 4, 3) := by decide +kernel
theorem dX11_doWork_140 : decode cX11_doWork 140 = .ok (.iconst 0, 1) := by decide +kernel
theorem dX11_doWork_141 : decode cX11_doWork 141 = .ok (.istore 4, 2) := by decide +kernel
theorem dX11_doWork_143 : decode cX11_doWork 143 = .ok (.iinc 5 1, 3) := by decide +kernel
theorem dX11_doWork_146 : decode cX11_doWork 146 = .ok (.goto (-105), 3) := by decide +kernel
theorem dX11_doWork_149 : decode cX11_doWork 149 = .ok (.aload_n 0, 1) := by decide +kernel
theorem dX11_doWork_150 : decode cX11_doWork 150 = .ok (.getfield 44, 3) := by decide +kernel
theorem dX11_doWork_153 : decode cX11_doWork 153 = .ok (.iload_n 1, 1) := by decide +kernel
theorem dX11_doWork_154 : decode cX11_doWork 154 = .ok (.iaload, 1) := by decide +kernel
theorem dX11_doWork_155 : decode cX11_doWork 155 = .ok (.ifCond .ne 49, 3) := by decide +kernel
theorem dX11_doWork_158 : decode cX11_doWork 158 = .ok (.iload 4, 2) := by decide +kernel
theorem dX11_doWork_160 : decode cX11_doWork 160 = .ok (.ifCond .eq 30, 3) := by decide +kernel
theorem dX11_doWork_163 : decode cX11_doWork 163 = .ok (.aload_n 0, 1) := by decide +kernel
theorem dX11_doWork_164 : decode cX11_doWork 164 = .ok (.getfield 47, 3) := by decide +kernel
theorem dX11_doWork_167 : decode cX11_doWork 167 = .ok (.iload_n 1, 1) := by decide +kernel
theorem dX11_doWork_168 : decode cX11_doWork 168 = .ok (.iaload, 1) := by decide +kernel
theorem dX11_doWork_169 : decode cX11_doWork 169 = .ok (.iconst (-1), 1) := by decide +kernel
theorem dX11_doWork_170 : decode cX11_doWork 170 = .ok (.if_icmp .eq 16, 3) := by decide +kernel
theorem dX11_doWork_173 : decode cX11_doWork 173 = .ok (.aload_n 0, 1) := by decide +kernel
theorem dX11_doWork_174 : decode cX11_doWork 174 = .ok (.aload_n 0, 1) := by decide +kernel
theorem dX11_doWork_175 : decode cX11_doWork 175 = .ok (.getfield 69, 3) := by decide +kernel
theorem dX11_doWork_178 : decode cX11_doWork 178 = .ok (.iload_n 3, 1) := by decide +kernel
theorem dX11_doWork_179 : decode cX11_doWork 179 = .ok (.laload, 1) := by decide +kernel
theorem dX11_doWork_180 : decode cX11_doWork 180 = .ok (.invokevirtual 293, 3) := by decide +kernel
theorem dX11_doWork_183 : decode cX11_doWork 183 = .ok (.ifCond .eq 7, 3) := by decide +kernel
theorem dX11_doWork_186 : decode cX11_doWork 186 = .ok (.iconst 1, 1) := by decide +kernel
theorem dX11_doWork_187 : decode cX11_doWork 187 = .ok (.goto 4, 3) := by decide +kernel
theorem dX11_doWork_190 : decode cX11_doWork 190 = .ok (.iconst 0, 1) := by decide +kernel
theorem dX11_doWork_191 : decode cX11_doWork 191 = .ok (.istore 4, 2) := by decide +kernel
theorem dX11_doWork_193 : decode cX11_doWork 193 = .ok (.aload_n 0, 1) := by decide +kernel
theorem dX11_doWork_194 : decode cX11_doWork 194 = .ok (.aload_n 0, 1) := by decide +kernel
theorem dX11_doWork_195 : decode cX11_doWork 195 = .ok (.getfield 290, 3) := by decide +kernel
theorem dX11_doWork_198 : decode cX11_doWork 198 = .ok (.putfield 297, 3) := by decide +kernel
theorem dX11_doWork_201 : decode cX11_doWork 201 = .ok (.goto 13, 3) := by decide +kernel
theorem dX11_doWork_204 : decode cX11_doWork 204 = .ok (.aload_n 0, 1) := by decide +kernel
theorem dX11_doWork_205 : decode cX11_doWork 205 = .ok (.aload_n 0, 1) := by decide +kernel
theorem dX11_doWork_206 : decode cX11_doWork 206 = .ok (.getfield 69, 3) := by decide +kernel
theorem dX11_doWork_209 : decode cX11_doWork 209 = .ok (.iload_n 3, 1) := by decide +kernel
theorem dX11_doWork_210 : decode cX11_doWork 210 = .ok (.laload, 1) := by decide +kernel
theorem dX11_doWork_211 : decode cX11_doWork 211 = .ok (.putfield 297, 3) := by decide +kernel
theorem dX11_doWork_214 : decode cX11_doWork 214 = .ok (.iload 4, 2) := by decide +kernel
theorem dX11_doWork_216 : decode cX11_doWork 216 = .ok (.ifCond .eq 19, 3) := by decide +kernel
theorem dX11_doWork_219 : decode cX11_doWork 219 = .ok (.aload_n 0, 1) := by decide +kernel
theorem dX11_doWork_220 : decode cX11_doWork 220 = .ok (.getfield 41, 3) := by decide +kernel
theorem dX11_doWork_223 : decode cX11_doWork 223 = .ok (.iload_n 1, 1) := by decide +kernel
theorem dX11_doWork_224 : decode cX11_doWork 224 = .ok (.iaload, 1) := by decide +kernel
theorem dX11_doWork_225 : decode cX11_doWork 225 = .ok (.aload_n 0, 1) := by decide +kernel
theorem dX11_doWork_226 : decode cX11_doWork 226 = .ok (.getfield 297, 3) := by decide +kernel
theorem dX11_doWork_229 : decode cX11_doWork 229 = .ok (.invokestatic 176, 3) := by decide +kernel
theorem dX11_doWork_232 : decode cX11_doWork 232 = .ok (.ifCond .ne 5, 3) := by decide +kernel
theorem dX11_doWork_235 : decode cX11_doWork 235 = .ok (.iconst 0, 1) := by decide +kernel
theorem dX11_doWork_236 : decode cX11_doWork 236 = .ok (.ireturn, 1) := by decide +kernel
theorem dX11_doWork_237 : decode cX11_doWork 237 = .ok (.aload_n 0, 1) := by decide +kernel
theorem dX11_doWork_238 : decode cX11_doWork 238 = .ok (.getfield 44, 3) := by decide +kernel
theorem dX11_doWork_241 : decode cX11_doWork 241 = .ok (.iload_n 1, 1) := by decide +kernel
theorem dX11_doWork_242 : decode cX11_doWork 242 = .ok (.iaload, 1) := by decide +kernel
theorem dX11_doWork_243 : decode cX11_doWork 243 = .ok (.iconst 2, 1) := by decide +kernel
theorem dX11_doWork_244 : decode cX11_doWork 244 = .ok (.if_icmp .ne 13, 3) := by decide +kernel
theorem dX11_doWork_247 : decode cX11_doWork 247 = .ok (.aload_n 0, 1) := by decide +kernel
theorem dX11_doWork_248 : decode cX11_doWork 248 = .ok (.getfield 69, 3) := by decide +kernel
theorem dX11_doWork_251 : decode cX11_doWork 251 = .ok (.iload_n 3, 1) := by decide +kernel
theorem dX11_doWork_252 : decode cX11_doWork 252 = .ok (.aload_n 0, 1) := by decide +kernel
theorem dX11_doWork_253 : decode cX11_doWork 253 = .ok (.getfield 290, 3) := by decide +kernel
theorem dX11_doWork_256 : decode cX11_doWork 256 = .ok (.lastore, 1) := by decide +kernel
theorem dX11_doWork_257 : decode cX11_doWork 257 = .ok (.iconst 1, 1) := by decide +kernel
theorem dX11_doWork_258 : decode cX11_doWork 258 = .ok (.ireturn, 1) := by decide +kernel
theorem dX11_callChain_0 : decode cX11_callChain 0 = .ok (.aload_n 0, 1) := by decide +kernel
theorem dX11_callChain_1 : decode cX11_callChain 1 = .ok (.getfield 111, 3) := by decide +kernel
theorem dX11_callChain_4 : decode cX11_callChain 4 = .ok (.iconst 0, 1) := by decide +kernel
theorem dX11_callChain_5 : decode cX11_callChain 5 = .ok (.iaload, 1) := by decide +kernel
theorem dX11_callChain_6 : decode cX11_callChain 6 = .ok (.istore_n 2, 1) := by decide +kernel
theorem dX11_callChain_7 : decode cX11_callChain 7 = .ok (.iconst 0, 1) := by decide +kernel
theorem dX11_callChain_8 : decode cX11_callChain 8 = .ok (.istore_n 3, 1) := by decide +kernel
theorem dX11_callChain_9 : decode cX11_callChain 9 = .ok (.iload_n 3, 1) := by decide +kernel
theorem dX11_callChain_10 : decode cX11_callChain 10 = .ok (.aload_n 0, 1) := by decide +kernel
theorem dX11_callChain_11 : decode cX11_callChain 11 = .ok (.getfield 35, 3) := by decide +kernel
theorem dX11_callChain_14 : decode cX11_callChain 14 = .ok (.iload_n 2, 1) := by decide +kernel
theorem dX11_callChain_15 : decode cX11_callChain 15 = .ok (.iaload, 1) := by decide +kernel
theorem dX11_callChain_16 : decode cX11_callChain 16 = .ok (.if_icmp .ge 52, 3) := by decide +kernel
theorem dX11_callChain_19 : decode cX11_callChain 19 = .ok (.aload_n 0, 1) := by decide +kernel
theorem dX11_callChain_20 : decode cX11_callChain 20 = .ok (.getfield 117, 3) := by decide +kernel
theorem dX11_callChain_23 : decode cX11_callChain 23 = .ok (.iload_n 3, 1) := by decide +kernel
theorem dX11_callChain_24 : decode cX11_callChain 24 = .ok (.aload_n 0, 1) := by decide +kernel
theorem dX11_callChain_25 : decode cX11_callChain 25 = .ok (.getfield 72, 3) := by decide +kernel
theorem dX11_callChain_28 : decode cX11_callChain 28 = .ok (.iload_n 3, 1) := by decide +kernel
theorem dX11_callChain_29 : decode cX11_callChain 29 = .ok (.laload, 1) := by decide +kernel
theorem dX11_callChain_30 : decode cX11_callChain 30 = .ok (.lastore, 1) := by decide +kernel
theorem dX11_callChain_31 : decode cX11_callChain 31 = .ok (.aload_n 0, 1) := by decide +kernel
theorem dX11_callChain_32 : decode cX11_callChain 32 = .ok (.getfield 38, 3) := by decide +kernel
theorem dX11_callChain_35 : decode cX11_callChain 35 = .ok (.iconst 4, 1) := by decide +kernel
theorem dX11_callChain_36 : decode cX11_callChain 36 = .ok (.iload_n 2, 1) := by decide +kernel
theorem dX11_callChain_37 : decode cX11_callChain 37 = .ok (.imul, 1) := by decide +kernel
theorem dX11_callChain_38 : decode cX11_callChain 38 = .ok (.iload_n 3, 1) := by decide +kernel
theorem dX11_callChain_39 : decode cX11_callChain 39 = .ok (.iadd, 1) := by decide +kernel
theorem dX11_callChain_40 : decode cX11_callChain 40 = .ok (.iaload, 1) := by decide +kernel
theorem dX11_callChain_41 : decode cX11_callChain 41 = .ok (.aload_n 0, 1) := by decide +kernel
theorem dX11_callChain_42 : decode cX11_callChain 42 = .ok (.getfield 72, 3) := by decide +kernel
theorem dX11_callChain_45 : decode cX11_callChain 45 = .ok (.iload_n 3, 1) := by decide +kernel
theorem dX11_callChain_46 : decode cX11_callChain 46 = .ok (.laload, 1) := by decide +kernel
theorem dX11_callChain_47 : decode cX11_callChain 47 = .ok (.invokestatic 176, 3) := by decide +kernel
theorem dX11_callChain_50 : decode cX11_callChain 50 = .ok (.ifCond .ne 12, 3) := by decide +kernel
theorem dX11_callChain_53 : decode cX11_callChain 53 = .ok (.aload_n 0, 1) := by decide +kernel
theorem dX11_callChain_54 : decode cX11_callChain 54 = .ok (.iconst 0, 1) := by decide +kernel
theorem dX11_callChain_55 : decode cX11_callChain 55 = .ok (.iconst (-1), 1) := by decide +kernel
theorem dX11_callChain_56 : decode cX11_callChain 56 = .ok (.invokevirtual 208, 3) := by decide +kernel
theorem dX11_callChain_59 : decode cX11_callChain 59 = .ok (.bipush (-7), 2) := by decide +kernel
theorem dX11_callChain_61 : decode cX11_callChain 61 = .ok (.ireturn, 1) := by decide +kernel
theorem dX11_callChain_62 : decode cX11_callChain 62 = .ok (.iinc 3 1, 3) := by decide +kernel
theorem dX11_callChain_65 : decode cX11_callChain 65 = .ok (.goto (-56), 3) := by decide +kernel
theorem dX11_callChain_68 : decode cX11_callChain 68 = .ok (.iconst 1, 1) := by decide +kernel
theorem dX11_callChain_69 : decode cX11_callChain 69 = .ok (.istore_n 3, 1) := by decide +kernel
theorem dX11_callChain_70 : decode cX11_callChain 70 = .ok (.iload_n 3, 1) := by decide +kernel
theorem dX11_callChain_71 : decode cX11_callChain 71 = .ok (.aload_n 0, 1) := by decide +kernel
theorem dX11_callChain_72 : decode cX11_callChain 72 = .ok (.getfield 287, 3) := by decide +kernel
theorem dX11_callChain_75 : decode cX11_callChain 75 = .ok (.if_icmp .ge 20, 3) := by decide +kernel
theorem dX11_callChain_78 : decode cX11_callChain 78 = .ok (.aload_n 0, 1) := by decide +kernel
theorem dX11_callChain_79 : decode cX11_callChain 79 = .ok (.iload_n 3, 1) := by decide +kernel
theorem dX11_callChain_80 : decode cX11_callChain 80 = .ok (.invokevirtual 300, 3) := by decide +kernel
theorem dX11_callChain_83 : decode cX11_callChain 83 = .ok (.ifCond .ne 6, 3) := by decide +kernel
theorem dX11_callChain_86 : decode cX11_callChain 86 = .ok (.bipush (-7), 2) := by decide +kernel
theorem dX11_callChain_88 : decode cX11_callChain 88 = .ok (.ireturn, 1) := by decide +kernel
theorem dX11_callChain_89 : decode cX11_callChain 89 = .ok (.iinc 3 1, 3) := by decide +kernel
theorem dX11_callChain_92 : decode cX11_callChain 92 = .ok (.goto (-22), 3) := by decide +kernel
theorem dX11_callChain_95 : decode cX11_callChain 95 = .ok (.aload_n 0, 1) := by decide +kernel
theorem dX11_callChain_96 : decode cX11_callChain 96 = .ok (.aload_n 0, 1) := by decide +kernel
theorem dX11_callChain_97 : decode cX11_callChain 97 = .ok (.getfield 111, 3) := by decide +kernel
theorem dX11_callChain_100 : decode cX11_callChain 100 = .ok (.aload_n 0, 1) := by decide +kernel
theorem dX11_callChain_101 : decode cX11_callChain 101 = .ok (.getfield 287, 3) := by decide +kernel
theorem dX11_callChain_104 : decode cX11_callChain 104 = .ok (.iconst 1, 1) := by decide +kernel
theorem dX11_callChain_105 : decode cX11_callChain 105 = .ok (.isub, 1) := by decide +kernel
theorem dX11_callChain_106 : decode cX11_callChain 106 = .ok (.iaload, 1) := by decide +kernel
theorem dX11_callChain_107 : decode cX11_callChain 107 = .ok (.iload_n 1, 1) := by decide +kernel
theorem dX11_callChain_108 : decode cX11_callChain 108 = .ok (.invokevirtual 303, 3) := by decide +kernel
theorem dX11_callChain_111 : decode cX11_callChain 111 = .ok (.ifCond .ne 12, 3) := by decide +kernel
theorem dX11_callChain_114 : decode cX11_callChain 114 = .ok (.aload_n 0, 1) := by decide +kernel
theorem dX11_callChain_115 : decode cX11_callChain 115 = .ok (.iconst 2, 1) := by decide +kernel
theorem dX11_callChain_116 : decode cX11_callChain 116 = .ok (.iconst (-1), 1) := by decide +kernel
theorem dX11_callChain_117 : decode cX11_callChain 117 = .ok (.invokevirtual 208, 3) := by decide +kernel
theorem dX11_callChain_120 : decode cX11_callChain 120 = .ok (.bipush (-7), 2) := by decide +kernel
theorem dX11_callChain_122 : decode cX11_callChain 122 = .ok (.ireturn, 1) := by decide +kernel
theorem dX11_callChain_123 : decode cX11_callChain 123 = .ok (.aload_n 0, 1) := by decide +kernel
theorem dX11_callChain_124 : decode cX11_callChain 124 = .ok (.getfield 287, 3) := by decide +kernel
theorem dX11_callChain_127 : decode cX11_callChain 127 = .ok (.iconst 1, 1) := by decide +kernel
theorem dX11_callChain_128 : decode cX11_callChain 128 = .ok (.isub, 1) := by decide +kernel
theorem dX11_callChain_129 : decode cX11_callChain 129 = .ok (.istore_n 3, 1) := by decide +kernel
theorem dX11_callChain_130 : decode cX11_callChain 130 = .ok (.iload_n 3, 1) := by decide +kernel
theorem dX11_callChain_131 : decode cX11_callChain 131 = .ok (.ifCond .le 56, 3) := by decide +kernel
theorem dX11_callChain_134 : decode cX11_callChain 134 = .ok (.aload_n 0, 1) := by decide +kernel
theorem dX11_callChain_135 : decode cX11_callChain 135 = .ok (.aload_n 0, 1) := by decide +kernel
theorem dX11_callChain_136 : decode cX11_callChain 136 = .ok (.getfield 41, 3) := by decide +kernel
theorem dX11_callChain_139 : decode cX11_callChain 139 = .ok (.aload_n 0, 1) := by decide +kernel
theorem dX11_callChain_140 : decode cX11_callChain 140 = .ok (.getfield 111, 3) := by decide +kernel
theorem dX11_callChain_143 : decode cX11_callChain 143 = .ok (.iload_n 3, 1) := by decide +kernel
theorem dX11_callChain_144 : decode cX11_callChain 144 = .ok (.iaload, 1) := by decide +kernel
theorem dX11_callChain_145 : decode cX11_callChain 145 = .ok (.iaload, 1) := by decide +kernel
theorem dX11_callChain_146 : decode cX11_callChain 146 = .ok (.aload_n 0, 1) := by decide +kernel
theorem dX11_callChain_147 : decode cX11_callChain 147 = .ok (.getfield 41, 3) := by decide +kernel
theorem dX11_callChain_150 : decode cX11_callChain 150 = .ok (.aload_n 0, 1) := by decide +kernel
theorem dX11_callChain_151 : decode cX11_callChain 151 = .ok (.getfield 111, 3) := by decide +kernel
theorem dX11_callChain_154 : decode cX11_callChain 154 = .ok (.iload_n 3, 1) := by decide +kernel
theorem dX11_callChain_155 : decode cX11_callChain 155 = .ok (.iconst 1, 1) := by decide +kernel
theorem dX11_callChain_156 : decode cX11_callChain 156 = .ok (.isub, 1) := by decide +kernel
theorem dX11_callChain_157 : decode cX11_callChain 157 = .ok (.iaload, 1) := by decide +kernel
theorem dX11_callChain_158 : decode cX11_callChain 158 = .ok (.iaload, 1) := by decide +kernel
theorem dX11_callChain_159 : decode cX11_callChain 159 = .ok (.aload_n 0, 1) := by decide +kernel
theorem dX11_callChain_160 : decode cX11_callChain 160 = .ok (.getfield 297, 3) := by decide +kernel
theorem dX11_callChain_163 : decode cX11_callChain 163 = .ok (.iconst 3, 1) := by decide +kernel
theorem dX11_callChain_164 : decode cX11_callChain 164 = .ok (.invokevirtual 212, 3) := by decide +kernel
theorem dX11_callChain_167 : decode cX11_callChain 167 = .ok (.ifCond .ne 6, 3) := by decide +kernel
theorem dX11_callChain_170 : decode cX11_callChain 170 = .ok (.bipush (-7), 2) := by decide +kernel
theorem dX11_callChain_172 : decode cX11_callChain 172 = .ok (.ireturn, 1) := by decide +kernel
theorem dX11_callChain_173 : decode cX11_callChain 173 = .ok (.aload_n 0, 1) := by decide +kernel
theorem dX11_callChain_174 : decode cX11_callChain 174 = .ok (.aload_n 0, 1) := by decide +kernel
theorem dX11_callChain_175 : decode cX11_callChain 175 = .ok (.getfield 202, 3) := by decide +kernel
