theorem dX10_call_59 : decode cX10_call 59 = .ok (.getfield 154, 3) := by decide +kernel
theorem dX10_call_62 : decode cX10_call 62 = .ok (.iload_n 3, 1) := by decide +kernel
theorem dX10_call_63 : decode cX10_call 63 = .ok (.aaload, 1) := by decide +kernel
theorem dX10_call_64 : decode cX10_call 64 = .ok (.invokevirtual 231, 3) := by decide +kernel
theorem dX10_call_67 : decode cX10_call 67 = .ok (.aload_n 0, 1) := by decide +kernel
theorem dX10_call_68 : decode cX10_call 68 = .ok (.iload_n 1, 1) := by decide +kernel
theorem dX10_call_69 : decode cX10_call 69 = .ok (.invokevirtual 235, 3) := by decide +kernel
theorem dX10_call_72 : decode cX10_call 72 = .ok (.ireturn, 1) := by decide +kernel
theorem dX10_through_0 : decode cX10_through 0 = .ok (.aload_n 0, 1) := by decide +kernel
theorem dX10_through_1 : decode cX10_through 1 = .ok (.getfield 57, 3) := by decide +kernel
theorem dX10_through_4 : decode cX10_through 4 = .ok (.iload_n 1, 1) := by decide +kernel
theorem dX10_through_5 : decode cX10_through 5 = .ok (.invokevirtual 224, 3) := by decide +kernel
theorem dX10_through_8 : decode cX10_through 8 = .ok (.ifCond .ne 6, 3) := by decide +kernel
theorem dX10_through_11 : decode cX10_through 11 = .ok (.bipush (-2), 2) := by decide +kernel
theorem dX10_through_13 : decode cX10_through 13 = .ok (.ireturn, 1) := by decide +kernel
theorem dX10_through_14 : decode cX10_through 14 = .ok (.iload_n 2, 1) := by decide +kernel
theorem dX10_through_15 : decode cX10_through 15 = .ok (.iload_n 3, 1) := by decide +kernel
theorem dX10_through_16 : decode cX10_through 16 = .ok (.invokestatic 208, 3) := by decide +kernel
theorem dX10_through_19 : decode cX10_through 19 = .ok (.ifCond .ne 6, 3) := by decide +kernel
theorem dX10_through_22 : decode cX10_through 22 = .ok (.bipush (-3), 2) := by decide +kernel
theorem dX10_through_24 : decode cX10_through 24 = .ok (.ireturn, 1) := by decide +kernel
theorem dX10_through_25 : decode cX10_through 25 = .ok (.aload_n 0, 1) := by decide +kernel
theorem dX10_through_26 : decode cX10_through 26 = .ok (.getfield 50, 3) := by decide +kernel
theorem dX10_through_29 : decode cX10_through 29 = .ok (.iload_n 2, 1) := by decide +kernel
theorem dX10_through_30 : decode cX10_through 30 = .ok (.iload_n 3, 1) := by decide +kernel
theorem dX10_through_31 : decode cX10_through 31 = .ok (.invokevirtual 211, 3) := by decide +kernel
theorem dX10_through_34 : decode cX10_through 34 = .ok (.ifCond .ne 5, 3) := by decide +kernel
theorem dX10_through_37 : decode cX10_through 37 = .ok (.iconst (-1), 1) := by decide +kernel
theorem dX10_through_38 : decode cX10_through 38 = .ok (.ireturn, 1) := by decide +kernel
theorem dX10_through_39 : decode cX10_through 39 = .ok (.aload_n 0, 1) := by decide +kernel
theorem dX10_through_40 : decode cX10_through 40 = .ok (.getfield 41, 3) := by decide +kernel
theorem dX10_through_43 : decode cX10_through 43 = .ok (.bipush 10, 2) := by decide +kernel
theorem dX10_through_45 : decode cX10_through 45 = .ok (.iload_n 3, 1) := by decide +kernel
theorem dX10_through_46 : decode cX10_through 46 = .ok (.iadd, 1) := by decide +kernel
theorem dX10_through_47 : decode cX10_through 47 = .ok (.aaload, 1) := by decide +kernel
theorem dX10_through_48 : decode cX10_through 48 = .ok (.iload 4, 2) := by decide +kernel
theorem dX10_through_50 : decode cX10_through 50 = .ok (.invokevirtual 151, 3) := by decide +kernel
theorem dX10_through_53 : decode cX10_through 53 = .ok (.ifCond .ne 6, 3) := by decide +kernel
theorem dX10_through_56 : decode cX10_through 56 = .ok (.bipush (-2), 2) := by decide +kernel
theorem dX10_through_58 : decode cX10_through 58 = .ok (.ireturn, 1) := by decide +kernel
theorem dX10_through_59 : decode cX10_through 59 = .ok (.aload_n 0, 1) := by decide +kernel
theorem dX10_through_60 : decode cX10_through 60 = .ok (.getfield 73, 3) := by decide +kernel
theorem dX10_through_63 : decode cX10_through 63 = .ok (.aload_n 0, 1) := by decide +kernel
theorem dX10_through_64 : decode cX10_through 64 = .ok (.getfield 41, 3) := by decide +kernel
theorem dX10_through_67 : decode cX10_through 67 = .ok (.bipush 10, 2) := by decide +kernel
theorem dX10_through_69 : decode cX10_through 69 = .ok (.iload_n 3, 1) := by decide +kernel
theorem dX10_through_70 : decode cX10_through 70 = .ok (.iadd, 1) := by decide +kernel
theorem dX10_through_71 : decode cX10_through 71 = .ok (.aaload, 1) := by decide +kernel
theorem dX10_through_72 : decode cX10_through 72 = .ok (.getfield 154, 3) := by decide +kernel
theorem dX10_through_75 : decode cX10_through 75 = .ok (.iload 4, 2) := by decide +kernel
theorem dX10_through_77 : decode cX10_through 77 = .ok (.aaload, 1) := by decide +kernel
theorem dX10_through_78 : decode cX10_through 78 = .ok (.invokevirtual 231, 3) := by decide +kernel
theorem dX10_through_81 : decode cX10_through 81 = .ok (.aload_n 0, 1) := by decide +kernel
theorem dX10_through_82 : decode cX10_through 82 = .ok (.getfield 50, 3) := by decide +kernel
theorem dX10_through_85 : decode cX10_through 85 = .ok (.getfield 214, 3) := by decide +kernel
theorem dX10_through_88 : decode cX10_through 88 = .ok (.iconst 2, 1) := by decide +kernel
theorem dX10_through_89 : decode cX10_through 89 = .ok (.isub, 1) := by decide +kernel
theorem dX10_through_90 : decode cX10_through 90 = .ok (.istore 5, 2) := by decide +kernel
theorem dX10_through_92 : decode cX10_through 92 = .ok (.iload 5, 2) := by decide +kernel
theorem dX10_through_94 : decode cX10_through 94 = .ok (.ifCond .lt 40, 3) := by decide +kernel
theorem dX10_through_97 : decode cX10_through 97 = .ok (.aload_n 0, 1) := by decide +kernel
theorem dX10_through_98 : decode cX10_through 98 = .ok (.getfield 73, 3) := by decide +kernel
theorem dX10_through_101 : decode cX10_through 101 = .ok (.aload_n 0, 1) := by decide +kernel
theorem dX10_through_102 : decode cX10_through 102 = .ok (.getfield 41, 3) := by decide +kernel
theorem dX10_through_105 : decode cX10_through 105 = .ok (.bipush 10, 2) := by decide +kernel
theorem dX10_through_107 : decode cX10_through 107 = .ok (.aload_n 0, 1) := by decide +kernel
theorem dX10_through_108 : decode cX10_through 108 = .ok (.getfield 50, 3) := by decide +kernel
theorem dX10_through_111 : decode cX10_through 111 = .ok (.getfield 217, 3) := by decide +kernel
theorem dX10_through_114 : decode cX10_through 114 = .ok (.iload 5, 2) := by decide +kernel
theorem dX10_through_116 : decode cX10_through 116 = .ok (.iaload, 1) := by decide +kernel
theorem dX10_through_117 : decode cX10_through 117 = .ok (.iadd, 1) := by decide +kernel
theorem dX10_through_118 : decode cX10_through 118 = .ok (.aaload, 1) := by decide +kernel
theorem dX10_through_119 : decode cX10_through 119 = .ok (.invokevirtual 238, 3) := by decide +kernel
theorem dX10_through_122 : decode cX10_through 122 = .ok (.ifCond .ne 6, 3) := by decide +kernel
theorem dX10_through_125 : decode cX10_through 125 = .ok (.bipush (-6), 2) := by decide +kernel
theorem dX10_through_127 : decode cX10_through 127 = .ok (.ireturn, 1) := by decide +kernel
theorem dX10_through_128 : decode cX10_through 128 = .ok (.iinc 5 (-1), 3) := by decide +kernel
theorem dX10_through_131 : decode cX10_through 131 = .ok (.goto (-39), 3) := by decide +kernel
theorem dX10_through_134 : decode cX10_through 134 = .ok (.aload_n 0, 1) := by decide +kernel
theorem dX10_through_135 : decode cX10_through 135 = .ok (.iload_n 1, 1) := by decide +kernel
theorem dX10_through_136 : decode cX10_through 136 = .ok (.invokevirtual 235, 3) := by decide +kernel
theorem dX10_through_139 : decode cX10_through 139 = .ok (.ireturn, 1) := by decide +kernel
theorem dX10_value_0 : decode cX10_value 0 = .ok (.aload_n 0, 1) := by decide +kernel
theorem dX10_value_1 : decode cX10_value 1 = .ok (.getfield 64, 3) := by decide +kernel
theorem dX10_value_4 : decode cX10_value 4 = .ok (.getfield 135, 3) := by decide +kernel
theorem dX10_value_7 : decode cX10_value 7 = .ok (.lreturn, 1) := by decide +kernel
theorem dX10_failed_0 : decode cX10_failed 0 = .ok (.aload_n 0, 1) := by decide +kernel
theorem dX10_failed_1 : decode cX10_failed 1 = .ok (.getfield 64, 3) := by decide +kernel
theorem dX10_failed_4 : decode cX10_failed 4 = .ok (.getfield 242, 3) := by decide +kernel
theorem dX10_failed_7 : decode cX10_failed 7 = .ok (.iconst (-1), 1) := by decide +kernel
theorem dX10_failed_8 : decode cX10_failed 8 = .ok (.if_icmp .ne 5, 3) := by decide +kernel
theorem dX10_failed_11 : decode cX10_failed 11 = .ok (.iconst (-1), 1) := by decide +kernel
theorem dX10_failed_12 : decode cX10_failed 12 = .ok (.ireturn, 1) := by decide +kernel
theorem dX10_failed_13 : decode cX10_failed 13 = .ok (.iload_n 1, 1) := by decide +kernel
theorem dX10_failed_14 : decode cX10_failed 14 = .ok (.iconst 0, 1) := by decide +kernel
theorem dX10_failed_15 : decode cX10_failed 15 = .ok (.iconst 1, 1) := by decide +kernel
theorem dX10_failed_16 : decode cX10_failed 16 = .ok (.invokestatic 82, 3) := by decide +kernel
theorem dX10_failed_19 : decode cX10_failed 19 = .ok (.ifCond .ne 6, 3) := by decide +kernel
theorem dX10_failed_22 : decode cX10_failed 22 = .ok (.bipush (-3), 2) := by decide +kernel
theorem dX10_failed_24 : decode cX10_failed 24 = .ok (.ireturn, 1) := by decide +kernel
theorem dX10_failed_25 : decode cX10_failed 25 = .ok (.iload_n 1, 1) := by decide +kernel
theorem dX10_failed_26 : decode cX10_failed 26 = .ok (.ifCond .ne 13, 3) := by decide +kernel
theorem dX10_failed_29 : decode cX10_failed 29 = .ok (.aload_n 0, 1) := by decide +kernel
theorem dX10_failed_30 : decode cX10_failed 30 = .ok (.getfield 64, 3) := by decide +kernel
theorem dX10_failed_33 : decode cX10_failed 33 = .ok (.getfield 242, 3) := by decide +kernel
theorem dX10_failed_36 : decode cX10_failed 36 = .ok (.goto 10, 3) := by decide +kernel
theorem dX10_failed_39 : decode cX10_failed 39 = .ok (.aload_n 0, 1) := by decide +kernel
theorem dX10_failed_40 : decode cX10_failed 40 = .ok (.getfield 64, 3) := by decide +kernel
theorem dX10_failed_43 : decode cX10_failed 43 = .ok (.getfield 245, 3) := by decide +kernel
theorem dX10_failed_46 : decode cX10_failed 46 = .ok (.ireturn, 1) := by decide +kernel
theorem dX10_count_0 : decode cX10_count 0 = .ok (.iload_n 1, 1) := by decide +kernel
theorem dX10_count_1 : decode cX10_count 1 = .ok (.tableswitch 112 0 7 #[47, 55, 63, 71, 79, 88, 96, 104], 47) := by decide +kernel
theorem dX10_count_48 : decode cX10_count 48 = .ok (.aload_n 0, 1) := by decide +kernel
theorem dX10_count_49 : decode cX10_count 49 = .ok (.getfield 12, 3) := by decide +kernel
theorem dX10_count_52 : decode cX10_count 52 = .ok (.getfield 248, 3) := by decide +kernel
theorem dX10_count_55 : decode cX10_count 55 = .ok (.ireturn, 1) := by decide +kernel
theorem dX10_count_56 : decode cX10_count 56 = .ok (.aload_n 0, 1) := by decide +kernel
theorem dX10_count_57 : decode cX10_count 57 = .ok (.getfield 57, 3) := by decide +kernel
theorem dX10_count_60 : decode cX10_count 60 = .ok (.getfield 220, 3) := by decide +kernel
theorem dX10_count_63 : decode cX10_count 63 = .ok (.ireturn, 1) := by decide +kernel
theorem dX10_count_64 : decode cX10_count 64 = .ok (.aload_n 0, 1) := by decide +kernel
theorem dX10_count_65 : decode cX10_count 65 = .ok (.getfield 19, 3) := by decide +kernel
theorem dX10_count_68 : decode cX10_count 68 = .ok (.getfield 251, 3) := by decide +kernel
theorem dX10_count_71 : decode cX10_count 71 = .ok (.ireturn, 1) := by decide +kernel
theorem dX10_count_72 : decode cX10_count 72 = .ok (.aload_n 0, 1) := by decide +kernel
theorem dX10_count_73 : decode cX10_count 73 = .ok (.getfield 26, 3) := by decide +kernel
theorem dX10_count_76 : decode cX10_count 76 = .ok (.invokevirtual 252, 3) := by decide +kernel
theorem dX10_count_79 : decode cX10_count 79 = .ok (.ireturn, 1) := by decide +kernel
theorem dX10_count_80 : decode cX10_count 80 = .ok (.aload_n 0, 1) := by decide +kernel
theorem dX10_count_81 : decode cX10_count 81 = .ok (.bipush 10, 2) := by decide +kernel
theorem dX10_count_83 : decode cX10_count 83 = .ok (.bipush 20, 2) := by decide +kernel
theorem dX10_count_85 : decode cX10_count 85 = .ok (.invokevirtual 255, 3) := by decide +kernel
theorem dX10_count_88 : decode cX10_count 88 = .ok (.ireturn, 1) := by decide +kernel
theorem dX10_count_89 : decode cX10_count 89 = .ok (.aload_n 0, 1) := by decide +kernel
theorem dX10_count_90 : decode cX10_count 90 = .ok (.iconst 0, 1) := by decide +kernel
theorem dX10_count_91 : decode cX10_count 91 = .ok (.bipush 10, 2) := by decide +kernel
theorem dX10_count_93 : decode cX10_count 93 = .ok (.invokevirtual 255, 3) := by decide +kernel
theorem dX10_count_96 : decode cX10_count 96 = .ok (.ireturn, 1) := by decide +kernel
theorem dX10_count_97 : decode cX10_count 97 = .ok (.aload_n 0, 1) := by decide +kernel
theorem dX10_count_98 : decode cX10_count 98 = .ok (.getfield 64, 3) := by decide +kernel
theorem dX10_count_101 : decode cX10_count 101 = .ok (.getfield 258, 3) := by decide +kernel
theorem dX10_count_104 : decode cX10_count 104 = .ok (.ireturn, 1) := by decide +kernel
theorem dX10_count_105 : decode cX10_count 105 = .ok (.aload_n 0, 1) := by decide +kernel
theorem dX10_count_106 : decode cX10_count 106 = .ok (.getfield 64, 3) := by decide +kernel
theorem dX10_count_109 : decode cX10_count 109 = .ok (.getfield 261, 3) := by decide +kernel
theorem dX10_count_112 : decode cX10_count 112 = .ok (.ireturn, 1) := by decide +kernel
theorem dX10_count_113 : decode cX10_count 113 = .ok (.bipush (-3), 2) := by decide +kernel
theorem dX10_count_115 : decode cX10_count 115 = .ok (.ireturn, 1) := by decide +kernel
theorem dX10_finish_0 : decode cX10_finish 0 = .ok (.aload_n 0, 1) := by decide +kernel
theorem dX10_finish_1 : decode cX10_finish 1 = .ok (.getfield 73, 3) := by decide +kernel
theorem dX10_finish_4 : decode cX10_finish 4 = .ok (.aload_n 0, 1) := by decide +kernel
theorem dX10_finish_5 : decode cX10_finish 5 = .ok (.getfield 41, 3) := by decide +kernel
theorem dX10_finish_8 : decode cX10_finish 8 = .ok (.aload_n 0, 1) := by decide +kernel
theorem dX10_finish_9 : decode cX10_finish 9 = .ok (.getfield 57, 3) := by decide +kernel
theorem dX10_finish_12 : decode cX10_finish 12 = .ok (.getfield 264, 3) := by decide +kernel
theorem dX10_finish_15 : decode cX10_finish 15 = .ok (.iload_n 1, 1) := by decide +kernel
theorem dX10_finish_16 : decode cX10_finish 16 = .ok (.iaload, 1) := by decide +kernel
theorem dX10_finish_17 : decode cX10_finish 17 = .ok (.aaload, 1) := by decide +kernel
theorem dX10_finish_18 : decode cX10_finish 18 = .ok (.invokevirtual 238, 3) := by decide +kernel
theorem dX10_finish_21 : decode cX10_finish 21 = .ok (.ifCond .ne 6, 3) := by decide +kernel
theorem dX10_finish_24 : decode cX10_finish 24 = .ok (.bipush (-6), 2) := by decide +kernel
theorem dX10_finish_26 : decode cX10_finish 26 = .ok (.ireturn, 1) := by decide +kernel
theorem dX10_finish_27 : decode cX10_finish 27 = .ok (.aload_n 0, 1) := by decide +kernel
theorem dX10_finish_28 : decode cX10_finish 28 = .ok (.getfield 73, 3) := by decide +kernel
theorem dX10_finish_31 : decode cX10_finish 31 = .ok (.aload_n 0, 1) := by decide +kernel
theorem dX10_finish_32 : decode cX10_finish 32 = .ok (.getfield 57, 3) := by decide +kernel
theorem dX10_finish_35 : decode cX10_finish 35 = .ok (.getfield 225, 3) := by decide +kernel
theorem dX10_finish_38 : decode cX10_finish 38 = .ok (.iload_n 1, 1) := by decide +kernel
theorem dX10_finish_39 : decode cX10_finish 39 = .ok (.iconst 3, 1) := by decide +kernel
theorem dX10_finish_40 : decode cX10_finish 40 = .ok (.imul, 1) := by decide +kernel
theorem dX10_finish_41 : decode cX10_finish 41 = .ok (.invokevirtual 267, 3) := by decide +kernel
theorem dX10_finish_44 : decode cX10_finish 44 = .ok (.ifCond .eq 7, 3) := by decide +kernel
theorem dX10_finish_47 : decode cX10_finish 47 = .ok (.iconst 0, 1) := by decide +kernel
theorem dX10_finish_48 : decode cX10_finish 48 = .ok (.goto 5, 3) := by decide +kernel
theorem dX10_finish_51 : decode cX10_finish 51 = .ok (.bipush (-7), 2) := by decide +kernel
theorem dX10_finish_53 : decode cX10_finish 53 = .ok (.ireturn, 1) := by decide +kernel
theorem dX10_membersOf_0 : decode cX10_membersOf 0 = .ok (.iconst 0, 1) := by decide +kernel
theorem dX10_membersOf_1 : decode cX10_membersOf 1 = .ok (.istore_n 3, 1) := by decide +kernel
theorem dX10_membersOf_2 : decode cX10_membersOf 2 = .ok (.iload_n 1, 1) := by decide +kernel
theorem dX10_membersOf_3 : decode cX10_membersOf 3 = .ok (.istore 4, 2) := by decide +kernel
theorem dX10_membersOf_5 : decode cX10_membersOf 5 = .ok (.iload 4, 2) := by decide +kernel
theorem dX10_membersOf_7 : decode cX10_membersOf 7 = .ok (.iload_n 2, 1) := by decide +kernel
theorem dX10_membersOf_8 : decode cX10_membersOf 8 = .ok (.if_icmp .ge 22, 3) := by decide +kernel
theorem dX10_membersOf_11 : decode cX10_membersOf 11 = .ok (.iload_n 3, 1) := by decide +kernel
theorem dX10_membersOf_12 : decode cX10_membersOf 12 = .ok (.aload_n 0, 1) := by decide +kernel
theorem dX10_membersOf_13 : decode cX10_membersOf 13 = .ok (.getfield 41, 3) := by decide +kernel
theorem dX10_membersOf_16 : decode cX10_membersOf 16 = .ok (.iload 4, 2) := by decide +kernel
theorem dX10_membersOf_18 : decode cX10_membersOf 18 = .ok (.aaload, 1) := by decide +kernel
theorem dX10_membersOf_19 : decode cX10_membersOf 19 = .ok (.getfield 142, 3) := by decide +kernel
theorem dX10_membersOf_22 : decode cX10_membersOf 22 = .ok (.iadd, 1) := by decide +kernel
theorem dX10_membersOf_23 : decode cX10_membersOf 23 = .ok (.istore_n 3, 1) := by decide +kernel
theorem dX10_membersOf_24 : decode cX10_membersOf 24 = .ok (.iinc 4 1, 3) := by decide +kernel
theorem dX10_membersOf_27 : decode cX10_membersOf 27 = .ok (.goto (-22), 3) := by decide +kernel
theorem dX10_membersOf_30 : decode cX10_membersOf 30 = .ok (.iload_n 3, 1) := by decide +kernel
theorem dX10_membersOf_31 : decode cX10_membersOf 31 = .ok (.ireturn, 1) := by decide +kernel
theorem dX10_isWithin_0 : decode cX10_isWithin 0 = .ok (.iload_n 0, 1) := by decide +kernel
theorem dX10_isWithin_1 : decode cX10_isWithin 1 = .ok (.iload_n 1, 1) := by decide +kernel
theorem dX10_isWithin_2 : decode cX10_isWithin 2 = .ok (.if_icmp .lt 12, 3) := by decide +kernel
theorem dX10_isWithin_5 : decode cX10_isWithin 5 = .ok (.iload_n 0, 1) := by decide +kernel
theorem dX10_isWithin_6 : decode cX10_isWithin 6 = .ok (.iload_n 2, 1) := by decide +kernel
theorem dX10_isWithin_7 : decode cX10_isWithin 7 = .ok (.if_icmp .gt 7, 3) := by decide +kernel
theorem dX10_isWithin_10 : decode cX10_isWithin 10 = .ok (.iconst 1, 1) := by decide +kernel
theorem dX10_isWithin_11 : decode cX10_isWithin 11 = .ok (.goto 4, 3) := by decide +kernel
theorem dX10_isWithin_14 : decode cX10_isWithin 14 = .ok (.iconst 0, 1) := by decide +kernel
theorem dX10_isWithin_15 : decode cX10_isWithin 15 = .ok (.ireturn, 1) := by decide +kernel
theorem dX10_isSort_0 : decode cX10_isSort 0 = .ok (.iload_n 0, 1) := by decide +kernel
theorem dX10_isSort_1 : decode cX10_isSort 1 = .ok (.iconst 0, 1) := by decide +kernel
theorem dX10_isSort_2 : decode cX10_isSort 2 = .ok (.bipush 6, 2) := by decide +kernel
theorem dX10_isSort_4 : decode cX10_isSort 4 = .ok (.invokestatic 82, 3) := by decide +kernel
theorem dX10_isSort_7 : decode cX10_isSort 7 = .ok (.ireturn, 1) := by decide +kernel
theorem dX10_isName_0 : decode cX10_isName 0 = .ok (.iload_n 0, 1) := by decide +kernel
theorem dX10_isName_1 : decode cX10_isName 1 = .ok (.iconst 0, 1) := by decide +kernel
theorem dX10_isName_2 : decode cX10_isName 2 = .ok (.bipush 99, 2) := by decide +kernel
theorem dX10_isName_4 : decode cX10_isName 4 = .ok (.invokestatic 82, 3) := by decide +kernel
theorem dX10_isName_7 : decode cX10_isName 7 = .ok (.ireturn, 1) := by decide +kernel
theorem dX10_areFaces_0 : decode cX10_areFaces 0 = .ok (.iload_n 0, 1) := by decide +kernel
theorem dX10_areFaces_1 : decode cX10_areFaces 1 = .ok (.iconst 0, 1) := by decide +kernel
theorem dX10_areFaces_2 : decode cX10_areFaces 2 = .ok (.bipush 9, 2) := by decide +kernel
theorem dX10_areFaces_4 : decode cX10_areFaces 4 = .ok (.invokestatic 82, 3) := by decide +kernel
theorem dX10_areFaces_7 : decode cX10_areFaces 7 = .ok (.ifCond .eq 17, 3) := by decide +kernel
theorem dX10_areFaces_10 : decode cX10_areFaces 10 = .ok (.iload_n 1, 1) := by decide +kernel
theorem dX10_areFaces_11 : decode cX10_areFaces 11 = .ok (.iconst 0, 1) := by decide +kernel
theorem dX10_areFaces_12 : decode cX10_areFaces 12 = .ok (.bipush 9, 2) := by decide +kernel
theorem dX10_areFaces_14 : decode cX10_areFaces 14 = .ok (.invokestatic 82, 3) := by decide +kernel
theorem dX10_areFaces_17 : decode cX10_areFaces 17 = .ok (.ifCond .eq 7, 3) := by decide +kernel
theorem dX10_areFaces_20 : decode cX10_areFaces 20 = .ok (.iconst 1, 1) := by decide +kernel
theorem dX10_areFaces_21 : decode cX10_areFaces 21 = .ok (.goto 4, 3) := by decide +kernel
theorem dX10_areFaces_24 : decode cX10_areFaces 24 = .ok (.iconst 0, 1) := by decide +kernel
theorem dX10_areFaces_25 : decode cX10_areFaces 25 = .ok (.ireturn, 1) := by decide +kernel
theorem dX10_areFaceAndShape_0 : decode cX10_areFaceAndShape 0 = .ok (.iload_n 0, 1) := by decide +kernel
theorem dX10_areFaceAndShape_1 : decode cX10_areFaceAndShape 1 = .ok (.iconst 0, 1) := by decide +kernel
theorem dX10_areFaceAndShape_2 : decode cX10_areFaceAndShape 2 = .ok (.bipush 9, 2) := by decide +kernel
theorem dX10_areFaceAndShape_4 : decode cX10_areFaceAndShape 4 = .ok (.invokestatic 82, 3) := by decide +kernel
theorem dX10_areFaceAndShape_7 : decode cX10_areFaceAndShape 7 = .ok (.ifCond .eq 17, 3) := by decide +kernel
theorem dX10_areFaceAndShape_10 : decode cX10_areFaceAndShape 10 = .ok (.iload_n 1, 1) := by decide +kernel
theorem dX10_areFaceAndShape_11 : decode cX10_areFaceAndShape 11 = .ok (.iconst 0, 1) := by decide +kernel
theorem dX10_areFaceAndShape_12 : decode cX10_areFaceAndShape 12 = .ok (.bipush 19, 2) := by decide +kernel
theorem dX10_areFaceAndShape_14 : decode cX10_areFaceAndShape 14 = .ok (.invokestatic 82, 3) := by decide +kernel
theorem dX10_areFaceAndShape_17 : decode cX10_areFaceAndShape 17 = .ok (.ifCond .eq 7, 3) := by decide +kernel
theorem dX10_areFaceAndShape_20 : decode cX10_areFaceAndShape 20 = .ok (.iconst 1, 1) := by decide +kernel
theorem dX10_areFaceAndShape_21 : decode cX10_areFaceAndShape 21 = .ok (.goto 4, 3) := by decide +kernel
theorem dX10_areFaceAndShape_24 : decode cX10_areFaceAndShape 24 = .ok (.iconst 0, 1) := by decide +kernel
theorem dX10_areFaceAndShape_25 : decode cX10_areFaceAndShape 25 = .ok (.ireturn, 1) := by decide +kernel
theorem dX10_areSorts_0 : decode cX10_areSorts 0 = .ok (.iload_n 0, 1) := by decide +kernel
theorem dX10_areSorts_1 : decode cX10_areSorts 1 = .ok (.ifCond .lt 12, 3) := by decide +kernel
theorem dX10_areSorts_4 : decode cX10_areSorts 4 = .ok (.iload_n 0, 1) := by decide +kernel
theorem dX10_areSorts_5 : decode cX10_areSorts 5 = .ok (.bipush 7, 2) := by decide +kernel
theorem dX10_areSorts_7 : decode cX10_areSorts 7 = .ok (.iand, 1) := by decide +kernel
theorem dX10_areSorts_8 : decode cX10_areSorts 8 = .ok (.bipush 7, 2) := by decide +kernel
theorem dX10_areSorts_10 : decode cX10_areSorts 10 = .ok (.if_icmp .lt 5, 3) := by decide +kernel
theorem dX10_areSorts_13 : decode cX10_areSorts 13 = .ok (.iconst 0, 1) := by decide +kernel
theorem dX10_areSorts_14 : decode cX10_areSorts 14 = .ok (.ireturn, 1) := by decide +kernel
theorem dX10_areSorts_15 : decode cX10_areSorts 15 = .ok (.iload_n 0, 1) := by decide +kernel
theorem dX10_areSorts_16 : decode cX10_areSorts 16 = .ok (.iconst 3, 1) := by decide +kernel
theorem dX10_areSorts_17 : decode cX10_areSorts 17 = .ok (.ishr, 1) := by decide +kernel
theorem dX10_areSorts_18 : decode cX10_areSorts 18 = .ok (.istore_n 1, 1) := by decide +kernel
theorem dX10_areSorts_19 : decode cX10_areSorts 19 = .ok (.iconst 0, 1) := by decide +kernel
theorem dX10_areSorts_20 : decode cX10_areSorts 20 = .ok (.istore_n 2, 1) := by decide +kernel
theorem dX10_areSorts_21 : decode cX10_areSorts 21 = .ok (.iload_n 2, 1) := by decide +kernel
theorem dX10_areSorts_22 : decode cX10_areSorts 22 = .ok (.iconst 4, 1) := by decide +kernel
theorem dX10_areSorts_23 : decode cX10_areSorts 23 = .ok (.if_icmp .ge 20, 3) := by decide +kernel
theorem dX10_areSorts_26 : decode cX10_areSorts 26 = .ok (.iload_n 1, 1) := by decide +kernel
theorem dX10_areSorts_27 : decode cX10_areSorts 27 = .ok (.bipush 7, 2) := by decide +kernel
theorem dX10_areSorts_29 : decode cX10_areSorts 29 = .ok (.iand, 1) := by decide +kernel
theorem dX10_areSorts_30 : decode cX10_areSorts 30 = .ok (.ifCond .eq 13, 3) := by decide +kernel
theorem dX10_areSorts_33 : decode cX10_areSorts 33 = .ok (.iload_n 1, 1) := by decide +kernel
theorem dX10_areSorts_34 : decode cX10_areSorts 34 = .ok (.iconst 3, 1) := by decide +kernel
theorem dX10_areSorts_35 : decode cX10_areSorts 35 = .ok (.ishr, 1) := by decide +kernel
theorem dX10_areSorts_36 : decode cX10_areSorts 36 = .ok (.istore_n 1, 1) := by decide +kernel
theorem dX10_areSorts_37 : decode cX10_areSorts 37 = .ok (.iinc 2 1, 3) := by decide +kernel
theorem dX10_areSorts_40 : decode cX10_areSorts 40 = .ok (.goto (-19), 3) := by decide +kernel
theorem dX10_areSorts_43 : decode cX10_areSorts 43 = .ok (.iload_n 1, 1) := by decide +kernel
theorem dX10_areSorts_44 : decode cX10_areSorts 44 = .ok (.ifCond .ne 7, 3) := by decide +kernel
theorem dX10_areSorts_47 : decode cX10_areSorts 47 = .ok (.iconst 1, 1) := by decide +kernel
theorem dX10_areSorts_48 : decode cX10_areSorts 48 = .ok (.goto 4, 3) := by decide +kernel
theorem dX10_areSorts_51 : decode cX10_areSorts 51 = .ok (.iconst 0, 1) := by decide +kernel
theorem dX10_areSorts_52 : decode cX10_areSorts 52 = .ok (.ireturn, 1) := by decide +kernel
theorem dX10_isOf_0 : decode cX10_isOf 0 = .ok (.iload_n 0, 1) := by decide +kernel
theorem dX10_isOf_1 : decode cX10_isOf 1 = .ok (.tableswitch 147 0 6 #[43, 65, 87, 147, 109, 147, 127], 43) := by decide +kernel
theorem dX10_isOf_44 : decode cX10_isOf 44 = .ok (.lload_n 1, 1) := by decide +kernel
theorem dX10_isOf_45 : decode cX10_isOf 45 = .ok (.ldc2_w 271, 3) := by decide +kernel
theorem dX10_isOf_48 : decode cX10_isOf 48 = .ok (.lcmp, 1) := by decide +kernel
theorem dX10_isOf_49 : decode cX10_isOf 49 = .ok (.ifCond .lt 15, 3) := by decide +kernel
theorem dX10_isOf_52 : decode cX10_isOf 52 = .ok (.lload_n 1, 1) := by decide +kernel
theorem dX10_isOf_53 : decode cX10_isOf 53 = .ok (.ldc2_w 273, 3) := by decide +kernel
theorem dX10_isOf_56 : decode cX10_isOf 56 = .ok (.lcmp, 1) := by decide +kernel
theorem dX10_isOf_57 : decode cX10_isOf 57 = .ok (.ifCond .gt 7, 3) := by decide +kernel
theorem dX10_isOf_60 : decode cX10_isOf 60 = .ok (.iconst 1, 1) := by decide +kernel
theorem dX10_isOf_61 : decode cX10_isOf 61 = .ok (.goto 4, 3) := by decide +kernel
theorem dX10_isOf_64 : decode cX10_isOf 64 = .ok (.iconst 0, 1) := by decide +kernel
theorem dX10_isOf_65 : decode cX10_isOf 65 = .ok (.ireturn, 1) := by decide +kernel
theorem dX10_isOf_66 : decode cX10_isOf 66 = .ok (.lload_n 1, 1) := by decide +kernel
theorem dX10_isOf_67 : decode cX10_isOf 67 = .ok (.ldc2_w 275, 3) := by decide +kernel
theorem dX10_isOf_70 : decode cX10_isOf 70 = .ok (.lcmp, 1) := by decide +kernel
theorem dX10_isOf_71 : decode cX10_isOf 71 = .ok (.ifCond .lt 15, 3) := by decide +kernel
theorem dX10_isOf_74 : decode cX10_isOf 74 = .ok (.lload_n 1, 1) := by decide +kernel
theorem dX10_isOf_75 : decode cX10_isOf 75 = .ok (.ldc2_w 277, 3) := by decide +kernel
theorem dX10_isOf_78 : decode cX10_isOf 78 = .ok (.lcmp, 1) := by decide +kernel
theorem dX10_isOf_79 : decode cX10_isOf 79 = .ok (.ifCond .gt 7, 3) := by decide +kernel
theorem dX10_isOf_82 : decode cX10_isOf 82 = .ok (.iconst 1, 1) := by decide +kernel
theorem dX10_isOf_83 : decode cX10_isOf 83 = .ok (.goto 4, 3) := by decide +kernel
theorem dX10_isOf_86 : decode cX10_isOf 86 = .ok (.iconst 0, 1) := by decide +kernel
theorem dX10_isOf_87 : decode cX10_isOf 87 = .ok (.ireturn, 1) := by decide +kernel
theorem dX10_isOf_88 : decode cX10_isOf 88 = .ok (.lload_n 1, 1) := by decide +kernel
theorem dX10_isOf_89 : decode cX10_isOf 89 = .ok (.ldc2_w 279, 3) := by decide +kernel
theorem dX10_isOf_92 : decode cX10_isOf 92 = .ok (.lcmp, 1) := by decide +kernel
theorem dX10_isOf_93 : decode cX10_isOf 93 = .ok (.ifCond .lt 15, 3) := by decide +kernel
theorem dX10_isOf_96 : decode cX10_isOf 96 = .ok (.lload_n 1, 1) := by decide +kernel
theorem dX10_isOf_97 : decode cX10_isOf 97 = .ok (.ldc2_w 281, 3) := by decide +kernel
theorem dX10_isOf_100 : decode cX10_isOf 100 = .ok (.lcmp, 1) := by decide +kernel
theorem dX10_isOf_101 : decode cX10_isOf 101 = .ok (.ifCond .gt 7, 3) := by decide +kernel
theorem dX10_isOf_104 : decode cX10_isOf 104 = .ok (.iconst 1, 1) := by decide +kernel
theorem dX10_isOf_105 : decode cX10_isOf 105 = .ok (.goto 4, 3) := by decide +kernel
theorem dX10_isOf_108 : decode cX10_isOf 108 = .ok (.iconst 0, 1) := by decide +kernel
theorem dX10_isOf_109 : decode cX10_isOf 109 = .ok (.ireturn, 1) := by decide +kernel
theorem dX10_isOf_110 : decode cX10_isOf 110 = .ok (.lload_n 1, 1) := by decide +kernel
theorem dX10_isOf_111 : decode cX10_isOf 111 = .ok (.lconst 0, 1) := by decide +kernel
theorem dX10_isOf_112 : decode cX10_isOf 112 = .ok (.lcmp, 1) := by decide +kernel
theorem dX10_isOf_113 : decode cX10_isOf 113 = .ok (.ifCond .eq 9, 3) := by decide +kernel
theorem dX10_isOf_116 : decode cX10_isOf 116 = .ok (.lload_n 1, 1) := by decide +kernel
theorem dX10_isOf_117 : decode cX10_isOf 117 = .ok (.lconst 1, 1) := by decide +kernel
theorem dX10_isOf_118 : decode cX10_isOf 118 = .ok (.lcmp, 1) := by decide +kernel
theorem dX10_isOf_119 : decode cX10_isOf 119 = .ok (.ifCond .ne 7, 3) := by decide +kernel
theorem dX10_isOf_122 : decode cX10_isOf 122 = .ok (.iconst 1, 1) := by decide +kernel
theorem dX10_isOf_123 : decode cX10_isOf 123 = .ok (.goto 4, 3) := by decide +kernel
theorem dX10_isOf_126 : decode cX10_isOf 126 = .ok (.iconst 0, 1) := by decide +kernel
theorem dX10_isOf_127 : decode cX10_isOf 127 = .ok (.ireturn, 1) := by decide +kernel
theorem dX10_isOf_128 : decode cX10_isOf 128 = .ok (.lload_n 1, 1) := by decide +kernel
theorem dX10_isOf_129 : decode cX10_isOf 129 = .ok (.lconst 0, 1) := by decide +kernel
theorem dX10_isOf_130 : decode cX10_isOf 130 = .ok (.lcmp, 1) := by decide +kernel
theorem dX10_isOf_131 : decode cX10_isOf 131 = .ok (.ifCond .lt 15, 3) := by decide +kernel
theorem dX10_isOf_134 : decode cX10_isOf 134 = .ok (.lload_n 1, 1) := by decide +kernel
theorem dX10_isOf_135 : decode cX10_isOf 135 = .ok (.ldc2_w 273, 3) := by decide +kernel
theorem dX10_isOf_138 : decode cX10_isOf 138 = .ok (.lcmp, 1) := by decide +kernel
theorem dX10_isOf_139 : decode cX10_isOf 139 = .ok (.ifCond .gt 7, 3) := by decide +kernel
theorem dX10_isOf_142 : decode cX10_isOf 142 = .ok (.iconst 1, 1) := by decide +kernel
theorem dX10_isOf_143 : decode cX10_isOf 143 = .ok (.goto 4, 3) := by decide +kernel
theorem dX10_isOf_146 : decode cX10_isOf 146 = .ok (.iconst 0, 1) := by decide +kernel
theorem dX10_isOf_147 : decode cX10_isOf 147 = .ok (.ireturn, 1) := by decide +kernel
theorem dX10_isOf_148 : decode cX10_isOf 148 = .ok (.iconst 1, 1) := by decide +kernel
theorem dX10_isOf_149 : decode cX10_isOf 149 = .ok (.ireturn, 1) := by decide +kernel
theorem dX10_staysIn64_0 : decode cX10_staysIn64 0 = .ok (.lload_n 0, 1) := by decide +kernel
theorem dX10_staysIn64_1 : decode cX10_staysIn64 1 = .ok (.ldc2_w 283, 3) := by decide +kernel
theorem dX10_staysIn64_4 : decode cX10_staysIn64 4 = .ok (.land, 1) := by decide +kernel
theorem dX10_staysIn64_5 : decode cX10_staysIn64 5 = .ok (.iload_n 2, 1) := by decide +kernel
theorem dX10_staysIn64_6 : decode cX10_staysIn64 6 = .ok (.i2l, 1) := by decide +kernel
theorem dX10_staysIn64_7 : decode cX10_staysIn64 7 = .ok (.lmul, 1) := by decide +kernel
theorem dX10_staysIn64_8 : decode cX10_staysIn64 8 = .ok (.iload_n 3, 1) := by decide +kernel
theorem dX10_staysIn64_9 : decode cX10_staysIn64 9 = .ok (.i2l, 1) := by decide +kernel
theorem dX10_staysIn64_10 : decode cX10_staysIn64 10 = .ok (.ladd, 1) := by decide +kernel
theorem dX10_staysIn64_11 : decode cX10_staysIn64 11 = .ok (.lstore 4, 2) := by decide +kernel
theorem dX10_staysIn64_13 : decode cX10_staysIn64 13 = .ok (.lload_n 0, 1) := by decide +kernel
theorem dX10_staysIn64_14 : decode cX10_staysIn64 14 = .ok (.bipush 20, 2) := by decide +kernel
theorem dX10_staysIn64_16 : decode cX10_staysIn64 16 = .ok (.lshr, 1) := by decide +kernel
theorem dX10_staysIn64_17 : decode cX10_staysIn64 17 = .ok (.iload_n 2, 1) := by decide +kernel
theorem dX10_staysIn64_18 : decode cX10_staysIn64 18 = .ok (.i2l, 1) := by decide +kernel
theorem dX10_staysIn64_19 : decode cX10_staysIn64 19 = .ok (.lmul, 1) := by decide +kernel
theorem dX10_staysIn64_20 : decode cX10_staysIn64 20 = .ok (.lload 4, 2) := by decide +kernel
theorem dX10_staysIn64_22 : decode cX10_staysIn64 22 = .ok (.bipush 20, 2) := by decide +kernel
theorem dX10_staysIn64_24 : decode cX10_staysIn64 24 = .ok (.lshr, 1) := by decide +kernel
theorem dX10_staysIn64_25 : decode cX10_staysIn64 25 = .ok (.ladd, 1) := by decide +kernel
theorem dX10_staysIn64_26 : decode cX10_staysIn64 26 = .ok (.lstore 6, 2) := by decide +kernel
theorem dX10_staysIn64_28 : decode cX10_staysIn64 28 = .ok (.lload 6, 2) := by decide +kernel
theorem dX10_staysIn64_30 : decode cX10_staysIn64 30 = .ok (.ldc2_w 285, 3) := by decide +kernel
theorem dX10_staysIn64_33 : decode cX10_staysIn64 33 = .ok (.lcmp, 1) := by decide +kernel
theorem dX10_staysIn64_34 : decode cX10_staysIn64 34 = .ok (.ifCond .lt 16, 3) := by decide +kernel
theorem dX10_staysIn64_37 : decode cX10_staysIn64 37 = .ok (.lload 6, 2) := by decide +kernel
theorem dX10_staysIn64_39 : decode cX10_staysIn64 39 = .ok (.ldc2_w 287, 3) := by decide +kernel
theorem dX10_staysIn64_42 : decode cX10_staysIn64 42 = .ok (.lcmp, 1) := by decide +kernel
theorem dX10_staysIn64_43 : decode cX10_staysIn64 43 = .ok (.ifCond .ge 7, 3) := by decide +kernel
theorem dX10_staysIn64_46 : decode cX10_staysIn64 46 = .ok (.iconst 1, 1) := by decide +kernel
theorem dX10_staysIn64_47 : decode cX10_staysIn64 47 = .ok (.goto 4, 3) := by decide +kernel
theorem dX10_staysIn64_50 : decode cX10_staysIn64 50 = .ok (.iconst 0, 1) := by decide +kernel
theorem dX10_staysIn64_51 : decode cX10_staysIn64 51 = .ok (.ireturn, 1) := by decide +kernel
theorem dX10_sumStaysIn64_0 : decode cX10_sumStaysIn64 0 = .ok (.lload_n 0, 1) := by decide +kernel
theorem dX10_sumStaysIn64_1 : decode cX10_sumStaysIn64 1 = .ok (.lload_n 2, 1) := by decide +kernel
theorem dX10_sumStaysIn64_2 : decode cX10_sumStaysIn64 2 = .ok (.ladd, 1) := by decide +kernel
theorem dX10_sumStaysIn64_3 : decode cX10_sumStaysIn64 3 = .ok (.lstore 4, 2) := by decide +kernel
theorem dX10_sumStaysIn64_5 : decode cX10_sumStaysIn64 5 = .ok (.lload_n 0, 1) := by decide +kernel
theorem dX10_sumStaysIn64_6 : decode cX10_sumStaysIn64 6 = .ok (.lload 4, 2) := by decide +kernel
theorem dX10_sumStaysIn64_8 : decode cX10_sumStaysIn64 8 = .ok (.lxor, 1) := by decide +kernel
theorem dX10_sumStaysIn64_9 : decode cX10_sumStaysIn64 9 = .ok (.lload_n 2, 1) := by decide +kernel
theorem dX10_sumStaysIn64_10 : decode cX10_sumStaysIn64 10 = .ok (.lload 4, 2) := by decide +kernel
theorem dX10_sumStaysIn64_12 : decode cX10_sumStaysIn64 12 = .ok (.lxor, 1) := by decide +kernel
theorem dX10_sumStaysIn64_13 : decode cX10_sumStaysIn64 13 = .ok (.land, 1) := by decide +kernel
theorem dX10_sumStaysIn64_14 : decode cX10_sumStaysIn64 14 = .ok (.lconst 0, 1) := by decide +kernel
theorem dX10_sumStaysIn64_15 : decode cX10_sumStaysIn64 15 = .ok (.lcmp, 1) := by decide +kernel
theorem dX10_sumStaysIn64_16 : decode cX10_sumStaysIn64 16 = .ok (.ifCond .lt 7, 3) := by decide +kernel
theorem dX10_sumStaysIn64_19 : decode cX10_sumStaysIn64 19 = .ok (.iconst 1, 1) := by decide +kernel
theorem dX10_sumStaysIn64_20 : decode cX10_sumStaysIn64 20 = .ok (.goto 4, 3) := by decide +kernel
theorem dX10_sumStaysIn64_23 : decode cX10_sumStaysIn64 23 = .ok (.iconst 0, 1) := by decide +kernel
theorem dX10_sumStaysIn64_24 : decode cX10_sumStaysIn64 24 = .ok (.ireturn, 1) := by decide +kernel
theorem dX11_init_0 : decode cX11_init 0 = .ok (.aload_n 0, 1) := by decide +kernel
theorem dX11_init_1 : decode cX11_init 1 = .ok (.invokespecial 1, 3) := by decide +kernel
theorem dX11_init_4 : decode cX11_init 4 = .ok (.aload_n 0, 1) := by decide +kernel
theorem dX11_init_5 : decode cX11_init 5 = .ok (.bipush 32, 2) := by decide +kernel
theorem dX11_init_7 : decode cX11_init 7 = .ok (.newarray .int, 2) := by decide +kernel
theorem dX11_init_9 : decode cX11_init 9 = .ok (.putfield 7, 3) := by decide +kernel
theorem dX11_init_12 : decode cX11_init 12 = .ok (.aload_n 0, 1) := by decide +kernel
theorem dX11_init_13 : decode cX11_init 13 = .ok (.bipush 32, 2) := by decide +kernel
