theorem dX1_doWork_1 : decode cX1_doWork 1 = .ok (.getfield 17, 3) := by decide +kernel
theorem dX1_doWork_4 : decode cX1_doWork 4 = .ok (.aload_n 0, 1) := by decide +kernel
theorem dX1_doWork_5 : decode cX1_doWork 5 = .ok (.getfield 25, 3) := by decide +kernel
theorem dX1_doWork_8 : decode cX1_doWork 8 = .ok (.aaload, 1) := by decide +kernel
theorem dX1_doWork_9 : decode cX1_doWork 9 = .ok (.astore_n 3, 1) := by decide +kernel
theorem dX1_doWork_10 : decode cX1_doWork 10 = .ok (.aload_n 3, 1) := by decide +kernel
theorem dX1_doWork_11 : decode cX1_doWork 11 = .ok (.getfield 135, 3) := by decide +kernel
theorem dX1_doWork_14 : decode cX1_doWork 14 = .ok (.lookupswitch 61 #[(1, 26), (2, 44)], 26) := by decide +kernel
theorem dX1_doWork_40 : decode cX1_doWork 40 = .ok (.aload_n 0, 1) := by decide +kernel
theorem dX1_doWork_41 : decode cX1_doWork 41 = .ok (.aload_n 3, 1) := by decide +kernel
theorem dX1_doWork_42 : decode cX1_doWork 42 = .ok (.aload_n 1, 1) := by decide +kernel
theorem dX1_doWork_43 : decode cX1_doWork 43 = .ok (.iload_n 2, 1) := by decide +kernel
theorem dX1_doWork_44 : decode cX1_doWork 44 = .ok (.aload_n 3, 1) := by decide +kernel
theorem dX1_doWork_45 : decode cX1_doWork 45 = .ok (.getfield 138, 3) := by decide +kernel
theorem dX1_doWork_48 : decode cX1_doWork 48 = .ok (.iadd, 1) := by decide +kernel
theorem dX1_doWork_49 : decode cX1_doWork 49 = .ok (.laload, 1) := by decide +kernel
theorem dX1_doWork_50 : decode cX1_doWork 50 = .ok (.invokevirtual 141, 3) := by decide +kernel
theorem dX1_doWork_53 : decode cX1_doWork 53 = .ok (.istore 4, 2) := by decide +kernel
theorem dX1_doWork_55 : decode cX1_doWork 55 = .ok (.goto 57, 3) := by decide +kernel
theorem dX1_doWork_58 : decode cX1_doWork 58 = .ok (.aload_n 0, 1) := by decide +kernel
theorem dX1_doWork_59 : decode cX1_doWork 59 = .ok (.aload_n 3, 1) := by decide +kernel
theorem dX1_doWork_60 : decode cX1_doWork 60 = .ok (.aload_n 1, 1) := by decide +kernel
theorem dX1_doWork_61 : decode cX1_doWork 61 = .ok (.iload_n 2, 1) := by decide +kernel
theorem dX1_doWork_62 : decode cX1_doWork 62 = .ok (.aload_n 3, 1) := by decide +kernel
theorem dX1_doWork_63 : decode cX1_doWork 63 = .ok (.getfield 138, 3) := by decide +kernel
theorem dX1_doWork_66 : decode cX1_doWork 66 = .ok (.iadd, 1) := by decide +kernel
theorem dX1_doWork_67 : decode cX1_doWork 67 = .ok (.invokevirtual 145, 3) := by decide +kernel
theorem dX1_doWork_70 : decode cX1_doWork 70 = .ok (.istore 4, 2) := by decide +kernel
theorem dX1_doWork_72 : decode cX1_doWork 72 = .ok (.goto 40, 3) := by decide +kernel
theorem dX1_doWork_75 : decode cX1_doWork 75 = .ok (.aload_n 0, 1) := by decide +kernel
theorem dX1_doWork_76 : decode cX1_doWork 76 = .ok (.aload_n 3, 1) := by decide +kernel
theorem dX1_doWork_77 : decode cX1_doWork 77 = .ok (.invokevirtual 149, 3) := by decide +kernel
theorem dX1_doWork_80 : decode cX1_doWork 80 = .ok (.ifCond .eq 29, 3) := by decide +kernel
theorem dX1_doWork_83 : decode cX1_doWork 83 = .ok (.aload_n 0, 1) := by decide +kernel
theorem dX1_doWork_84 : decode cX1_doWork 84 = .ok (.aload_n 3, 1) := by decide +kernel
theorem dX1_doWork_85 : decode cX1_doWork 85 = .ok (.aload_n 1, 1) := by decide +kernel
theorem dX1_doWork_86 : decode cX1_doWork 86 = .ok (.iload_n 2, 1) := by decide +kernel
theorem dX1_doWork_87 : decode cX1_doWork 87 = .ok (.invokevirtual 153, 3) := by decide +kernel
theorem dX1_doWork_90 : decode cX1_doWork 90 = .ok (.ifCond .eq 19, 3) := by decide +kernel
theorem dX1_doWork_93 : decode cX1_doWork 93 = .ok (.aload_n 0, 1) := by decide +kernel
theorem dX1_doWork_94 : decode cX1_doWork 94 = .ok (.aload_n 3, 1) := by decide +kernel
theorem dX1_doWork_95 : decode cX1_doWork 95 = .ok (.aload_n 0, 1) := by decide +kernel
theorem dX1_doWork_96 : decode cX1_doWork 96 = .ok (.getfield 35, 3) := by decide +kernel
theorem dX1_doWork_99 : decode cX1_doWork 99 = .ok (.invokevirtual 141, 3) := by decide +kernel
theorem dX1_doWork_102 : decode cX1_doWork 102 = .ok (.ifCond .eq 7, 3) := by decide +kernel
theorem dX1_doWork_105 : decode cX1_doWork 105 = .ok (.iconst 1, 1) := by decide +kernel
theorem dX1_doWork_106 : decode cX1_doWork 106 = .ok (.goto 4, 3) := by decide +kernel
theorem dX1_doWork_109 : decode cX1_doWork 109 = .ok (.iconst 0, 1) := by decide +kernel
theorem dX1_doWork_110 : decode cX1_doWork 110 = .ok (.istore 4, 2) := by decide +kernel
theorem dX1_doWork_112 : decode cX1_doWork 112 = .ok (.iload 4, 2) := by decide +kernel
theorem dX1_doWork_114 : decode cX1_doWork 114 = .ok (.ifCond .ne 12, 3) := by decide +kernel
theorem dX1_doWork_117 : decode cX1_doWork 117 = .ok (.aload_n 0, 1) := by decide +kernel
theorem dX1_doWork_118 : decode cX1_doWork 118 = .ok (.getfield 51, 3) := by decide +kernel
theorem dX1_doWork_121 : decode cX1_doWork 121 = .ok (.iconst 2, 1) := by decide +kernel
theorem dX1_doWork_122 : decode cX1_doWork 122 = .ok (.iconst (-1), 1) := by decide +kernel
theorem dX1_doWork_123 : decode cX1_doWork 123 = .ok (.invokevirtual 112, 3) := by decide +kernel
theorem dX1_doWork_126 : decode cX1_doWork 126 = .ok (.iload 4, 2) := by decide +kernel
theorem dX1_doWork_128 : decode cX1_doWork 128 = .ok (.ireturn, 1) := by decide +kernel
theorem dX1_giveIfOf_0 : decode cX1_giveIfOf 0 = .ok (.aload_n 0, 1) := by decide +kernel
theorem dX1_giveIfOf_1 : decode cX1_giveIfOf 1 = .ok (.lload_n 2, 1) := by decide +kernel
theorem dX1_giveIfOf_2 : decode cX1_giveIfOf 2 = .ok (.putfield 35, 3) := by decide +kernel
theorem dX1_giveIfOf_5 : decode cX1_giveIfOf 5 = .ok (.aload_n 1, 1) := by decide +kernel
theorem dX1_giveIfOf_6 : decode cX1_giveIfOf 6 = .ok (.getfield 156, 3) := by decide +kernel
theorem dX1_giveIfOf_9 : decode cX1_giveIfOf 9 = .ok (.lload_n 2, 1) := by decide +kernel
theorem dX1_giveIfOf_10 : decode cX1_giveIfOf 10 = .ok (.invokestatic 108, 3) := by decide +kernel
theorem dX1_giveIfOf_13 : decode cX1_giveIfOf 13 = .ok (.ireturn, 1) := by decide +kernel
theorem dX1_addUp_0 : decode cX1_addUp 0 = .ok (.aload_n 0, 1) := by decide +kernel
theorem dX1_addUp_1 : decode cX1_addUp 1 = .ok (.aload_n 1, 1) := by decide +kernel
theorem dX1_addUp_2 : decode cX1_addUp 2 = .ok (.getfield 158, 3) := by decide +kernel
theorem dX1_addUp_5 : decode cX1_addUp 5 = .ok (.i2l, 1) := by decide +kernel
theorem dX1_addUp_6 : decode cX1_addUp 6 = .ok (.putfield 35, 3) := by decide +kernel
theorem dX1_addUp_9 : decode cX1_addUp 9 = .ok (.iconst 0, 1) := by decide +kernel
theorem dX1_addUp_10 : decode cX1_addUp 10 = .ok (.istore_n 2, 1) := by decide +kernel
theorem dX1_addUp_11 : decode cX1_addUp 11 = .ok (.iload_n 2, 1) := by decide +kernel
theorem dX1_addUp_12 : decode cX1_addUp 12 = .ok (.aload_n 1, 1) := by decide +kernel
theorem dX1_addUp_13 : decode cX1_addUp 13 = .ok (.getfield 102, 3) := by decide +kernel
theorem dX1_addUp_16 : decode cX1_addUp 16 = .ok (.if_icmp .ge 51, 3) := by decide +kernel
theorem dX1_addUp_19 : decode cX1_addUp 19 = .ok (.aload_n 0, 1) := by decide +kernel
theorem dX1_addUp_20 : decode cX1_addUp 20 = .ok (.getfield 29, 3) := by decide +kernel
theorem dX1_addUp_23 : decode cX1_addUp 23 = .ok (.iload_n 2, 1) := by decide +kernel
theorem dX1_addUp_24 : decode cX1_addUp 24 = .ok (.laload, 1) := by decide +kernel
theorem dX1_addUp_25 : decode cX1_addUp 25 = .ok (.aload_n 1, 1) := by decide +kernel
theorem dX1_addUp_26 : decode cX1_addUp 26 = .ok (.getfield 161, 3) := by decide +kernel
theorem dX1_addUp_29 : decode cX1_addUp 29 = .ok (.iload_n 2, 1) := by decide +kernel
theorem dX1_addUp_30 : decode cX1_addUp 30 = .ok (.iaload, 1) := by decide +kernel
theorem dX1_addUp_31 : decode cX1_addUp 31 = .ok (.iconst 0, 1) := by decide +kernel
theorem dX1_addUp_32 : decode cX1_addUp 32 = .ok (.invokestatic 164, 3) := by decide +kernel
theorem dX1_addUp_35 : decode cX1_addUp 35 = .ok (.ifCond .eq 24, 3) := by decide +kernel
theorem dX1_addUp_38 : decode cX1_addUp 38 = .ok (.aload_n 0, 1) := by decide +kernel
theorem dX1_addUp_39 : decode cX1_addUp 39 = .ok (.aload_n 0, 1) := by decide +kernel
theorem dX1_addUp_40 : decode cX1_addUp 40 = .ok (.getfield 29, 3) := by decide +kernel
theorem dX1_addUp_43 : decode cX1_addUp 43 = .ok (.iload_n 2, 1) := by decide +kernel
theorem dX1_addUp_44 : decode cX1_addUp 44 = .ok (.laload, 1) := by decide +kernel
theorem dX1_addUp_45 : decode cX1_addUp 45 = .ok (.aload_n 1, 1) := by decide +kernel
theorem dX1_addUp_46 : decode cX1_addUp 46 = .ok (.getfield 161, 3) := by decide +kernel
theorem dX1_addUp_49 : decode cX1_addUp 49 = .ok (.iload_n 2, 1) := by decide +kernel
theorem dX1_addUp_50 : decode cX1_addUp 50 = .ok (.iaload, 1) := by decide +kernel
theorem dX1_addUp_51 : decode cX1_addUp 51 = .ok (.i2l, 1) := by decide +kernel
theorem dX1_addUp_52 : decode cX1_addUp 52 = .ok (.lmul, 1) := by decide +kernel
theorem dX1_addUp_53 : decode cX1_addUp 53 = .ok (.invokevirtual 168, 3) := by decide +kernel
theorem dX1_addUp_56 : decode cX1_addUp 56 = .ok (.ifCond .ne 5, 3) := by decide +kernel
theorem dX1_addUp_59 : decode cX1_addUp 59 = .ok (.iconst 0, 1) := by decide +kernel
theorem dX1_addUp_60 : decode cX1_addUp 60 = .ok (.ireturn, 1) := by decide +kernel
theorem dX1_addUp_61 : decode cX1_addUp 61 = .ok (.iinc 2 1, 3) := by decide +kernel
theorem dX1_addUp_64 : decode cX1_addUp 64 = .ok (.goto (-53), 3) := by decide +kernel
theorem dX1_addUp_67 : decode cX1_addUp 67 = .ok (.iconst 1, 1) := by decide +kernel
theorem dX1_addUp_68 : decode cX1_addUp 68 = .ok (.ireturn, 1) := by decide +kernel
theorem dX1_addField_0 : decode cX1_addField 0 = .ok (.aload_n 1, 1) := by decide +kernel
theorem dX1_addField_1 : decode cX1_addField 1 = .ok (.getfield 138, 3) := by decide +kernel
theorem dX1_addField_4 : decode cX1_addField 4 = .ok (.iconst (-1), 1) := by decide +kernel
theorem dX1_addField_5 : decode cX1_addField 5 = .ok (.if_icmp .eq 18, 3) := by decide +kernel
theorem dX1_addField_8 : decode cX1_addField 8 = .ok (.aload_n 0, 1) := by decide +kernel
theorem dX1_addField_9 : decode cX1_addField 9 = .ok (.aload_n 2, 1) := by decide +kernel
theorem dX1_addField_10 : decode cX1_addField 10 = .ok (.iload_n 3, 1) := by decide +kernel
theorem dX1_addField_11 : decode cX1_addField 11 = .ok (.aload_n 1, 1) := by decide +kernel
theorem dX1_addField_12 : decode cX1_addField 12 = .ok (.getfield 138, 3) := by decide +kernel
theorem dX1_addField_15 : decode cX1_addField 15 = .ok (.iadd, 1) := by decide +kernel
theorem dX1_addField_16 : decode cX1_addField 16 = .ok (.laload, 1) := by decide +kernel
theorem dX1_addField_17 : decode cX1_addField 17 = .ok (.invokevirtual 168, 3) := by decide +kernel
theorem dX1_addField_20 : decode cX1_addField 20 = .ok (.ifCond .eq 7, 3) := by decide +kernel
theorem dX1_addField_23 : decode cX1_addField 23 = .ok (.iconst 1, 1) := by decide +kernel
theorem dX1_addField_24 : decode cX1_addField 24 = .ok (.goto 4, 3) := by decide +kernel
theorem dX1_addField_27 : decode cX1_addField 27 = .ok (.iconst 0, 1) := by decide +kernel
theorem dX1_addField_28 : decode cX1_addField 28 = .ok (.ireturn, 1) := by decide +kernel
theorem dX1_addTo_0 : decode cX1_addTo 0 = .ok (.aload_n 0, 1) := by decide +kernel
theorem dX1_addTo_1 : decode cX1_addTo 1 = .ok (.getfield 35, 3) := by decide +kernel
theorem dX1_addTo_4 : decode cX1_addTo 4 = .ok (.lload_n 1, 1) := by decide +kernel
theorem dX1_addTo_5 : decode cX1_addTo 5 = .ok (.invokestatic 172, 3) := by decide +kernel
theorem dX1_addTo_8 : decode cX1_addTo 8 = .ok (.istore_n 3, 1) := by decide +kernel
theorem dX1_addTo_9 : decode cX1_addTo 9 = .ok (.aload_n 0, 1) := by decide +kernel
theorem dX1_addTo_10 : decode cX1_addTo 10 = .ok (.dup, 1) := by decide +kernel
theorem dX1_addTo_11 : decode cX1_addTo 11 = .ok (.getfield 35, 3) := by decide +kernel
theorem dX1_addTo_14 : decode cX1_addTo 14 = .ok (.lload_n 1, 1) := by decide +kernel
theorem dX1_addTo_15 : decode cX1_addTo 15 = .ok (.ladd, 1) := by decide +kernel
theorem dX1_addTo_16 : decode cX1_addTo 16 = .ok (.putfield 35, 3) := by decide +kernel
theorem dX1_addTo_19 : decode cX1_addTo 19 = .ok (.iload_n 3, 1) := by decide +kernel
theorem dX1_addTo_20 : decode cX1_addTo 20 = .ok (.ireturn, 1) := by decide +kernel
theorem dX1_writeField_0 : decode cX1_writeField 0 = .ok (.aload_n 0, 1) := by decide +kernel
theorem dX1_writeField_1 : decode cX1_writeField 1 = .ok (.lconst 0, 1) := by decide +kernel
theorem dX1_writeField_2 : decode cX1_writeField 2 = .ok (.putfield 35, 3) := by decide +kernel
theorem dX1_writeField_5 : decode cX1_writeField 5 = .ok (.iconst 0, 1) := by decide +kernel
theorem dX1_writeField_6 : decode cX1_writeField 6 = .ok (.istore 4, 2) := by decide +kernel
theorem dX1_writeField_8 : decode cX1_writeField 8 = .ok (.iload 4, 2) := by decide +kernel
theorem dX1_writeField_10 : decode cX1_writeField 10 = .ok (.aload_n 1, 1) := by decide +kernel
theorem dX1_writeField_11 : decode cX1_writeField 11 = .ok (.getfield 102, 3) := by decide +kernel
theorem dX1_writeField_14 : decode cX1_writeField 14 = .ok (.if_icmp .ge 25, 3) := by decide +kernel
theorem dX1_writeField_17 : decode cX1_writeField 17 = .ok (.aload_n 0, 1) := by decide +kernel
theorem dX1_writeField_18 : decode cX1_writeField 18 = .ok (.aload_n 0, 1) := by decide +kernel
theorem dX1_writeField_19 : decode cX1_writeField 19 = .ok (.getfield 29, 3) := by decide +kernel
theorem dX1_writeField_22 : decode cX1_writeField 22 = .ok (.iload 4, 2) := by decide +kernel
theorem dX1_writeField_24 : decode cX1_writeField 24 = .ok (.laload, 1) := by decide +kernel
theorem dX1_writeField_25 : decode cX1_writeField 25 = .ok (.invokevirtual 168, 3) := by decide +kernel
theorem dX1_writeField_28 : decode cX1_writeField 28 = .ok (.ifCond .ne 5, 3) := by decide +kernel
theorem dX1_writeField_31 : decode cX1_writeField 31 = .ok (.iconst 0, 1) := by decide +kernel
theorem dX1_writeField_32 : decode cX1_writeField 32 = .ok (.ireturn, 1) := by decide +kernel
theorem dX1_writeField_33 : decode cX1_writeField 33 = .ok (.iinc 4 1, 3) := by decide +kernel
theorem dX1_writeField_36 : decode cX1_writeField 36 = .ok (.goto (-28), 3) := by decide +kernel
theorem dX1_writeField_39 : decode cX1_writeField 39 = .ok (.aload_n 0, 1) := by decide +kernel
theorem dX1_writeField_40 : decode cX1_writeField 40 = .ok (.getfield 35, 3) := by decide +kernel
theorem dX1_writeField_43 : decode cX1_writeField 43 = .ok (.lstore 4, 2) := by decide +kernel
theorem dX1_writeField_45 : decode cX1_writeField 45 = .ok (.aload_n 0, 1) := by decide +kernel
theorem dX1_writeField_46 : decode cX1_writeField 46 = .ok (.aload_n 1, 1) := by decide +kernel
theorem dX1_writeField_47 : decode cX1_writeField 47 = .ok (.aload_n 2, 1) := by decide +kernel
theorem dX1_writeField_48 : decode cX1_writeField 48 = .ok (.iload_n 3, 1) := by decide +kernel
theorem dX1_writeField_49 : decode cX1_writeField 49 = .ok (.laload, 1) := by decide +kernel
theorem dX1_writeField_50 : decode cX1_writeField 50 = .ok (.invokevirtual 141, 3) := by decide +kernel
theorem dX1_writeField_53 : decode cX1_writeField 53 = .ok (.ifCond .ne 5, 3) := by decide +kernel
theorem dX1_writeField_56 : decode cX1_writeField 56 = .ok (.iconst 0, 1) := by decide +kernel
theorem dX1_writeField_57 : decode cX1_writeField 57 = .ok (.ireturn, 1) := by decide +kernel
theorem dX1_writeField_58 : decode cX1_writeField 58 = .ok (.aload_n 2, 1) := by decide +kernel
theorem dX1_writeField_59 : decode cX1_writeField 59 = .ok (.iload_n 3, 1) := by decide +kernel
theorem dX1_writeField_60 : decode cX1_writeField 60 = .ok (.lload 4, 2) := by decide +kernel
theorem dX1_writeField_62 : decode cX1_writeField 62 = .ok (.lastore, 1) := by decide +kernel
theorem dX1_writeField_63 : decode cX1_writeField 63 = .ok (.iconst 1, 1) := by decide +kernel
theorem dX1_writeField_64 : decode cX1_writeField 64 = .ok (.ireturn, 1) := by decide +kernel
theorem dX1_passBack_0 : decode cX1_passBack 0 = .ok (.aload_n 0, 1) := by decide +kernel
theorem dX1_passBack_1 : decode cX1_passBack 1 = .ok (.getfield 25, 3) := by decide +kernel
theorem dX1_passBack_4 : decode cX1_passBack 4 = .ok (.istore_n 1, 1) := by decide +kernel
theorem dX1_passBack_5 : decode cX1_passBack 5 = .ok (.iload_n 1, 1) := by decide +kernel
theorem dX1_passBack_6 : decode cX1_passBack 6 = .ok (.ifCond .le 71, 3) := by decide +kernel
theorem dX1_passBack_9 : decode cX1_passBack 9 = .ok (.aload_n 0, 1) := by decide +kernel
theorem dX1_passBack_10 : decode cX1_passBack 10 = .ok (.getfield 39, 3) := by decide +kernel
theorem dX1_passBack_13 : decode cX1_passBack 13 = .ok (.aload_n 0, 1) := by decide +kernel
theorem dX1_passBack_14 : decode cX1_passBack 14 = .ok (.getfield 17, 3) := by decide +kernel
theorem dX1_passBack_17 : decode cX1_passBack 17 = .ok (.iload_n 1, 1) := by decide +kernel
theorem dX1_passBack_18 : decode cX1_passBack 18 = .ok (.aaload, 1) := by decide +kernel
theorem dX1_passBack_19 : decode cX1_passBack 19 = .ok (.getfield 156, 3) := by decide +kernel
theorem dX1_passBack_22 : decode cX1_passBack 22 = .ok (.aload_n 0, 1) := by decide +kernel
theorem dX1_passBack_23 : decode cX1_passBack 23 = .ok (.getfield 17, 3) := by decide +kernel
theorem dX1_passBack_26 : decode cX1_passBack 26 = .ok (.iload_n 1, 1) := by decide +kernel
theorem dX1_passBack_27 : decode cX1_passBack 27 = .ok (.iconst 1, 1) := by decide +kernel
theorem dX1_passBack_28 : decode cX1_passBack 28 = .ok (.isub, 1) := by decide +kernel
theorem dX1_passBack_29 : decode cX1_passBack 29 = .ok (.aaload, 1) := by decide +kernel
theorem dX1_passBack_30 : decode cX1_passBack 30 = .ok (.getfield 156, 3) := by decide +kernel
theorem dX1_passBack_33 : decode cX1_passBack 33 = .ok (.aload_n 0, 1) := by decide +kernel
theorem dX1_passBack_34 : decode cX1_passBack 34 = .ok (.getfield 35, 3) := by decide +kernel
theorem dX1_passBack_37 : decode cX1_passBack 37 = .ok (.invokevirtual 130, 3) := by decide +kernel
theorem dX1_passBack_40 : decode cX1_passBack 40 = .ok (.ifCond .ne 20, 3) := by decide +kernel
theorem dX1_passBack_43 : decode cX1_passBack 43 = .ok (.aload_n 0, 1) := by decide +kernel
theorem dX1_passBack_44 : decode cX1_passBack 44 = .ok (.getfield 51, 3) := by decide +kernel
theorem dX1_passBack_47 : decode cX1_passBack 47 = .ok (.iconst 3, 1) := by decide +kernel
theorem dX1_passBack_48 : decode cX1_passBack 48 = .ok (.aload_n 0, 1) := by decide +kernel
theorem dX1_passBack_49 : decode cX1_passBack 49 = .ok (.getfield 39, 3) := by decide +kernel
theorem dX1_passBack_52 : decode cX1_passBack 52 = .ok (.getfield 120, 3) := by decide +kernel
theorem dX1_passBack_55 : decode cX1_passBack 55 = .ok (.invokevirtual 112, 3) := by decide +kernel
theorem dX1_passBack_58 : decode cX1_passBack 58 = .ok (.iconst 0, 1) := by decide +kernel
theorem dX1_passBack_59 : decode cX1_passBack 59 = .ok (.ireturn, 1) := by decide +kernel
theorem dX1_passBack_60 : decode cX1_passBack 60 = .ok (.aload_n 0, 1) := by decide +kernel
theorem dX1_passBack_61 : decode cX1_passBack 61 = .ok (.aload_n 0, 1) := by decide +kernel
theorem dX1_passBack_62 : decode cX1_passBack 62 = .ok (.getfield 39, 3) := by decide +kernel
theorem dX1_passBack_65 : decode cX1_passBack 65 = .ok (.getfield 134, 3) := by decide +kernel
theorem dX1_passBack_68 : decode cX1_passBack 68 = .ok (.putfield 35, 3) := by decide +kernel
theorem dX1_passBack_71 : decode cX1_passBack 71 = .ok (.iinc 1 (-1), 3) := by decide +kernel
theorem dX1_passBack_74 : decode cX1_passBack 74 = .ok (.goto (-69), 3) := by decide +kernel
theorem dX1_passBack_77 : decode cX1_passBack 77 = .ok (.iconst 1, 1) := by decide +kernel
theorem dX1_passBack_78 : decode cX1_passBack 78 = .ok (.ireturn, 1) := by decide +kernel
theorem dX2_init_0 : decode cX2_init 0 = .ok (.aload_n 0, 1) := by decide +kernel
theorem dX2_init_1 : decode cX2_init 1 = .ok (.invokespecial 3, 3) := by decide +kernel
theorem dX2_init_4 : decode cX2_init 4 = .ok (.aload_n 0, 1) := by decide +kernel
theorem dX2_init_5 : decode cX2_init 5 = .ok (.bipush 7, 2) := by decide +kernel
theorem dX2_init_7 : decode cX2_init 7 = .ok (.newarray .boolean, 2) := by decide +kernel
theorem dX2_init_9 : decode cX2_init 9 = .ok (.putfield 9, 3) := by decide +kernel
theorem dX2_init_12 : decode cX2_init 12 = .ok (.aload_n 0, 1) := by decide +kernel
theorem dX2_init_13 : decode cX2_init 13 = .ok (.bipush 7, 2) := by decide +kernel
theorem dX2_init_15 : decode cX2_init 15 = .ok (.newarray .long, 2) := by decide +kernel
theorem dX2_init_17 : decode cX2_init 17 = .ok (.putfield 15, 3) := by decide +kernel
theorem dX2_init_20 : decode cX2_init 20 = .ok (.return_, 1) := by decide +kernel
theorem dX2_held_0 : decode cX2_held 0 = .ok (.iconst 0, 1) := by decide +kernel
theorem dX2_held_1 : decode cX2_held 1 = .ok (.istore_n 1, 1) := by decide +kernel
theorem dX2_held_2 : decode cX2_held 2 = .ok (.aload_n 0, 1) := by decide +kernel
theorem dX2_held_3 : decode cX2_held 3 = .ok (.getfield 9, 3) := by decide +kernel
theorem dX2_held_6 : decode cX2_held 6 = .ok (.astore_n 2, 1) := by decide +kernel
theorem dX2_held_7 : decode cX2_held 7 = .ok (.aload_n 2, 1) := by decide +kernel
theorem dX2_held_8 : decode cX2_held 8 = .ok (.arraylength, 1) := by decide +kernel
theorem dX2_held_9 : decode cX2_held 9 = .ok (.istore_n 3, 1) := by decide +kernel
theorem dX2_held_10 : decode cX2_held 10 = .ok (.iconst 0, 1) := by decide +kernel
theorem dX2_held_11 : decode cX2_held 11 = .ok (.istore 4, 2) := by decide +kernel
theorem dX2_held_13 : decode cX2_held 13 = .ok (.iload 4, 2) := by decide +kernel
theorem dX2_held_15 : decode cX2_held 15 = .ok (.iload_n 3, 1) := by decide +kernel
theorem dX2_held_16 : decode cX2_held 16 = .ok (.if_icmp .ge 28, 3) := by decide +kernel
theorem dX2_held_19 : decode cX2_held 19 = .ok (.aload_n 2, 1) := by decide +kernel
theorem dX2_held_20 : decode cX2_held 20 = .ok (.iload 4, 2) := by decide +kernel
theorem dX2_held_22 : decode cX2_held 22 = .ok (.baload, 1) := by decide +kernel
theorem dX2_held_23 : decode cX2_held 23 = .ok (.istore 5, 2) := by decide +kernel
theorem dX2_held_25 : decode cX2_held 25 = .ok (.iload_n 1, 1) := by decide +kernel
theorem dX2_held_26 : decode cX2_held 26 = .ok (.iload 5, 2) := by decide +kernel
theorem dX2_held_28 : decode cX2_held 28 = .ok (.ifCond .eq 7, 3) := by decide +kernel
theorem dX2_held_31 : decode cX2_held 31 = .ok (.iconst 1, 1) := by decide +kernel
theorem dX2_held_32 : decode cX2_held 32 = .ok (.goto 4, 3) := by decide +kernel
theorem dX2_held_35 : decode cX2_held 35 = .ok (.iconst 0, 1) := by decide +kernel
theorem dX2_held_36 : decode cX2_held 36 = .ok (.iadd, 1) := by decide +kernel
theorem dX2_held_37 : decode cX2_held 37 = .ok (.istore_n 1, 1) := by decide +kernel
theorem dX2_held_38 : decode cX2_held 38 = .ok (.iinc 4 1, 3) := by decide +kernel
theorem dX2_held_41 : decode cX2_held 41 = .ok (.goto (-28), 3) := by decide +kernel
theorem dX2_held_44 : decode cX2_held 44 = .ok (.iload_n 1, 1) := by decide +kernel
theorem dX2_held_45 : decode cX2_held 45 = .ok (.ireturn, 1) := by decide +kernel
theorem dX3_init_0 : decode cX3_init 0 = .ok (.aload_n 0, 1) := by decide +kernel
theorem dX3_init_1 : decode cX3_init 1 = .ok (.invokespecial 3, 3) := by decide +kernel
theorem dX3_init_4 : decode cX3_init 4 = .ok (.aload_n 0, 1) := by decide +kernel
theorem dX3_init_5 : decode cX3_init 5 = .ok (.iconst 4, 1) := by decide +kernel
theorem dX3_init_6 : decode cX3_init 6 = .ok (.newarray .int, 2) := by decide +kernel
theorem dX3_init_8 : decode cX3_init 8 = .ok (.putfield 9, 3) := by decide +kernel
theorem dX3_init_11 : decode cX3_init 11 = .ok (.aload_n 0, 1) := by decide +kernel
theorem dX3_init_12 : decode cX3_init 12 = .ok (.ldc 15, 2) := by decide +kernel
theorem dX3_init_14 : decode cX3_init 14 = .ok (.putfield 16, 3) := by decide +kernel
theorem dX3_init_17 : decode cX3_init 17 = .ok (.aload_n 0, 1) := by decide +kernel
theorem dX3_init_18 : decode cX3_init 18 = .ok (.iconst (-1), 1) := by decide +kernel
theorem dX3_init_19 : decode cX3_init 19 = .ok (.putfield 20, 3) := by decide +kernel
theorem dX3_init_22 : decode cX3_init 22 = .ok (.aload_n 0, 1) := by decide +kernel
theorem dX3_init_23 : decode cX3_init 23 = .ok (.iconst 4, 1) := by decide +kernel
theorem dX3_init_24 : decode cX3_init 24 = .ok (.newarray .int, 2) := by decide +kernel
theorem dX3_init_26 : decode cX3_init 26 = .ok (.putfield 23, 3) := by decide +kernel
theorem dX3_init_29 : decode cX3_init 29 = .ok (.aload_n 0, 1) := by decide +kernel
theorem dX3_init_30 : decode cX3_init 30 = .ok (.aload_n 1, 1) := by decide +kernel
theorem dX3_init_31 : decode cX3_init 31 = .ok (.putfield 26, 3) := by decide +kernel
theorem dX3_init_34 : decode cX3_init 34 = .ok (.aload_n 0, 1) := by decide +kernel
theorem dX3_init_35 : decode cX3_init 35 = .ok (.aload_n 2, 1) := by decide +kernel
theorem dX3_init_36 : decode cX3_init 36 = .ok (.putfield 30, 3) := by decide +kernel
theorem dX3_init_39 : decode cX3_init 39 = .ok (.aload_n 0, 1) := by decide +kernel
theorem dX3_init_40 : decode cX3_init 40 = .ok (.aload_n 3, 1) := by decide +kernel
theorem dX3_init_41 : decode cX3_init 41 = .ok (.putfield 34, 3) := by decide +kernel
theorem dX3_init_44 : decode cX3_init 44 = .ok (.return_, 1) := by decide +kernel
theorem dX3_find_0 : decode cX3_find 0 = .ok (.aload_n 0, 1) := by decide +kernel
theorem dX3_find_1 : decode cX3_find 1 = .ok (.ldc 15, 2) := by decide +kernel
theorem dX3_find_3 : decode cX3_find 3 = .ok (.putfield 16, 3) := by decide +kernel
theorem dX3_find_6 : decode cX3_find 6 = .ok (.aload_n 0, 1) := by decide +kernel
theorem dX3_find_7 : decode cX3_find 7 = .ok (.iconst (-1), 1) := by decide +kernel
theorem dX3_find_8 : decode cX3_find 8 = .ok (.putfield 20, 3) := by decide +kernel
theorem dX3_find_11 : decode cX3_find 11 = .ok (.iconst 0, 1) := by decide +kernel
theorem dX3_find_12 : decode cX3_find 12 = .ok (.istore_n 3, 1) := by decide +kernel
theorem dX3_find_13 : decode cX3_find 13 = .ok (.iload_n 3, 1) := by decide +kernel
theorem dX3_find_14 : decode cX3_find 14 = .ok (.aload_n 2, 1) := by decide +kernel
theorem dX3_find_15 : decode cX3_find 15 = .ok (.getfield 38, 3) := by decide +kernel
theorem dX3_find_18 : decode cX3_find 18 = .ok (.if_icmp .ge 51, 3) := by decide +kernel
theorem dX3_find_21 : decode cX3_find 21 = .ok (.aload_n 2, 1) := by decide +kernel
theorem dX3_find_22 : decode cX3_find 22 = .ok (.getfield 43, 3) := by decide +kernel
theorem dX3_find_25 : decode cX3_find 25 = .ok (.iload_n 3, 1) := by decide +kernel
theorem dX3_find_26 : decode cX3_find 26 = .ok (.aaload, 1) := by decide +kernel
theorem dX3_find_27 : decode cX3_find 27 = .ok (.astore 4, 2) := by decide +kernel
theorem dX3_find_29 : decode cX3_find 29 = .ok (.aload_n 0, 1) := by decide +kernel
theorem dX3_find_30 : decode cX3_find 30 = .ok (.aload_n 1, 1) := by decide +kernel
theorem dX3_find_31 : decode cX3_find 31 = .ok (.aload 4, 2) := by decide +kernel
theorem dX3_find_33 : decode cX3_find 33 = .ok (.invokevirtual 47, 3) := by decide +kernel
theorem dX3_find_36 : decode cX3_find 36 = .ok (.istore 5, 2) := by decide +kernel
theorem dX3_find_38 : decode cX3_find 38 = .ok (.iload 5, 2) := by decide +kernel
theorem dX3_find_40 : decode cX3_find 40 = .ok (.iconst (-1), 1) := by decide +kernel
theorem dX3_find_41 : decode cX3_find 41 = .ok (.if_icmp .eq 22, 3) := by decide +kernel
theorem dX3_find_44 : decode cX3_find 44 = .ok (.aload_n 0, 1) := by decide +kernel
theorem dX3_find_45 : decode cX3_find 45 = .ok (.aload_n 1, 1) := by decide +kernel
theorem dX3_find_46 : decode cX3_find 46 = .ok (.aload 4, 2) := by decide +kernel
theorem dX3_find_48 : decode cX3_find 48 = .ok (.iconst 0, 1) := by decide +kernel
theorem dX3_find_49 : decode cX3_find 49 = .ok (.iconst 0, 1) := by decide +kernel
theorem dX3_find_50 : decode cX3_find 50 = .ok (.iload 5, 2) := by decide +kernel
theorem dX3_find_52 : decode cX3_find 52 = .ok (.invokevirtual 51, 3) := by decide +kernel
theorem dX3_find_55 : decode cX3_find 55 = .ok (.ifCond .eq 8, 3) := by decide +kernel
theorem dX3_find_58 : decode cX3_find 58 = .ok (.aload_n 0, 1) := by decide +kernel
theorem dX3_find_59 : decode cX3_find 59 = .ok (.iload_n 3, 1) := by decide +kernel
theorem dX3_find_60 : decode cX3_find 60 = .ok (.putfield 20, 3) := by decide +kernel
theorem dX3_find_63 : decode cX3_find 63 = .ok (.iinc 3 1, 3) := by decide +kernel
theorem dX3_find_66 : decode cX3_find 66 = .ok (.goto (-53), 3) := by decide +kernel
theorem dX3_find_69 : decode cX3_find 69 = .ok (.aload_n 0, 1) := by decide +kernel
theorem dX3_find_70 : decode cX3_find 70 = .ok (.getfield 20, 3) := by decide +kernel
theorem dX3_find_73 : decode cX3_find 73 = .ok (.iconst (-1), 1) := by decide +kernel
theorem dX3_find_74 : decode cX3_find 74 = .ok (.if_icmp .eq 7, 3) := by decide +kernel
theorem dX3_find_77 : decode cX3_find 77 = .ok (.iconst 1, 1) := by decide +kernel
theorem dX3_find_78 : decode cX3_find 78 = .ok (.goto 4, 3) := by decide +kernel
theorem dX3_find_81 : decode cX3_find 81 = .ok (.iconst 0, 1) := by decide +kernel
theorem dX3_find_82 : decode cX3_find 82 = .ok (.ireturn, 1) := by decide +kernel
theorem dX3_costOfAll_0 : decode cX3_costOfAll 0 = .ok (.iconst 0, 1) := by decide +kernel
theorem dX3_costOfAll_1 : decode cX3_costOfAll 1 = .ok (.istore_n 3, 1) := by decide +kernel
theorem dX3_costOfAll_2 : decode cX3_costOfAll 2 = .ok (.iconst 0, 1) := by decide +kernel
theorem dX3_costOfAll_3 : decode cX3_costOfAll 3 = .ok (.istore 4, 2) := by decide +kernel
theorem dX3_costOfAll_5 : decode cX3_costOfAll 5 = .ok (.iload 4, 2) := by decide +kernel
theorem dX3_costOfAll_7 : decode cX3_costOfAll 7 = .ok (.aload_n 1, 1) := by decide +kernel
theorem dX3_costOfAll_8 : decode cX3_costOfAll 8 = .ok (.getfield 38, 3) := by decide +kernel
theorem dX3_costOfAll_11 : decode cX3_costOfAll 11 = .ok (.if_icmp .ge 34, 3) := by decide +kernel
theorem dX3_costOfAll_14 : decode cX3_costOfAll 14 = .ok (.aload_n 0, 1) := by decide +kernel
theorem dX3_costOfAll_15 : decode cX3_costOfAll 15 = .ok (.aload_n 1, 1) := by decide +kernel
theorem dX3_costOfAll_16 : decode cX3_costOfAll 16 = .ok (.getfield 43, 3) := by decide +kernel
theorem dX3_costOfAll_19 : decode cX3_costOfAll 19 = .ok (.iload 4, 2) := by decide +kernel
theorem dX3_costOfAll_21 : decode cX3_costOfAll 21 = .ok (.aaload, 1) := by decide +kernel
theorem dX3_costOfAll_22 : decode cX3_costOfAll 22 = .ok (.aload_n 2, 1) := by decide +kernel
theorem dX3_costOfAll_23 : decode cX3_costOfAll 23 = .ok (.invokevirtual 55, 3) := by decide +kernel
theorem dX3_costOfAll_26 : decode cX3_costOfAll 26 = .ok (.ifCond .ne 6, 3) := by decide +kernel
theorem dX3_costOfAll_29 : decode cX3_costOfAll 29 = .ok (.bipush (-6), 2) := by decide +kernel
theorem dX3_costOfAll_31 : decode cX3_costOfAll 31 = .ok (.ireturn, 1) := by decide +kernel
theorem dX3_costOfAll_32 : decode cX3_costOfAll 32 = .ok (.iload_n 3, 1) := by decide +kernel
theorem dX3_costOfAll_33 : decode cX3_costOfAll 33 = .ok (.aload_n 0, 1) := by decide +kernel
theorem dX3_costOfAll_34 : decode cX3_costOfAll 34 = .ok (.getfield 16, 3) := by decide +kernel
theorem dX3_costOfAll_37 : decode cX3_costOfAll 37 = .ok (.iadd, 1) := by decide +kernel
theorem dX3_costOfAll_38 : decode cX3_costOfAll 38 = .ok (.istore_n 3, 1) := by decide +kernel
theorem dX3_costOfAll_39 : decode cX3_costOfAll 39 = .ok (.iinc 4 1, 3) := by decide +kernel
theorem dX3_costOfAll_42 : decode cX3_costOfAll 42 = .ok (.goto (-37), 3) := by decide +kernel
theorem dX3_costOfAll_45 : decode cX3_costOfAll 45 = .ok (.iload_n 3, 1) := by decide +kernel
theorem dX3_costOfAll_46 : decode cX3_costOfAll 46 = .ok (.ireturn, 1) := by decide +kernel
theorem dX3_firstGap_0 : decode cX3_firstGap 0 = .ok (.iconst 0, 1) := by decide +kernel
theorem dX3_firstGap_1 : decode cX3_firstGap 1 = .ok (.istore_n 3, 1) := by decide +kernel
theorem dX3_firstGap_2 : decode cX3_firstGap 2 = .ok (.iload_n 3, 1) := by decide +kernel
theorem dX3_firstGap_3 : decode cX3_firstGap 3 = .ok (.aload_n 1, 1) := by decide +kernel
theorem dX3_firstGap_4 : decode cX3_firstGap 4 = .ok (.getfield 38, 3) := by decide +kernel
theorem dX3_firstGap_7 : decode cX3_firstGap 7 = .ok (.if_icmp .ge 25, 3) := by decide +kernel
theorem dX3_firstGap_10 : decode cX3_firstGap 10 = .ok (.aload_n 0, 1) := by decide +kernel
theorem dX3_firstGap_11 : decode cX3_firstGap 11 = .ok (.aload_n 1, 1) := by decide +kernel
theorem dX3_firstGap_12 : decode cX3_firstGap 12 = .ok (.getfield 43, 3) := by decide +kernel
theorem dX3_firstGap_15 : decode cX3_firstGap 15 = .ok (.iload_n 3, 1) := by decide +kernel
theorem dX3_firstGap_16 : decode cX3_firstGap 16 = .ok (.aaload, 1) := by decide +kernel
theorem dX3_firstGap_17 : decode cX3_firstGap 17 = .ok (.aload_n 2, 1) := by decide +kernel
theorem dX3_firstGap_18 : decode cX3_firstGap 18 = .ok (.invokevirtual 55, 3) := by decide +kernel
theorem dX3_firstGap_21 : decode cX3_firstGap 21 = .ok (.ifCond .ne 5, 3) := by decide +kernel
theorem dX3_firstGap_24 : decode cX3_firstGap 24 = .ok (.iload_n 3, 1) := by decide +kernel
theorem dX3_firstGap_25 : decode cX3_firstGap 25 = .ok (.ireturn, 1) := by decide +kernel
theorem dX3_firstGap_26 : decode cX3_firstGap 26 = .ok (.iinc 3 1, 3) := by decide +kernel
theorem dX3_firstGap_29 : decode cX3_firstGap 29 = .ok (.goto (-27), 3) := by decide +kernel
theorem dX3_firstGap_32 : decode cX3_firstGap 32 = .ok (.iconst (-1), 1) := by decide +kernel
theorem dX3_firstGap_33 : decode cX3_firstGap 33 = .ok (.ireturn, 1) := by decide +kernel
theorem dX3_startOf_0 : decode cX3_startOf 0 = .ok (.aload_n 1, 1) := by decide +kernel
theorem dX3_startOf_1 : decode cX3_startOf 1 = .ok (.getfield 59, 3) := by decide +kernel
theorem dX3_startOf_4 : decode cX3_startOf 4 = .ok (.aload_n 2, 1) := by decide +kernel
theorem dX3_startOf_5 : decode cX3_startOf 5 = .ok (.getfield 59, 3) := by decide +kernel
theorem dX3_startOf_8 : decode cX3_startOf 8 = .ok (.if_icmp .ne 7, 3) := by decide +kernel
theorem dX3_startOf_11 : decode cX3_startOf 11 = .ok (.iconst 1, 1) := by decide +kernel
theorem dX3_startOf_12 : decode cX3_startOf 12 = .ok (.goto 4, 3) := by decide +kernel
theorem dX3_startOf_15 : decode cX3_startOf 15 = .ok (.iconst 0, 1) := by decide +kernel
theorem dX3_startOf_16 : decode cX3_startOf 16 = .ok (.istore_n 3, 1) := by decide +kernel
theorem dX3_startOf_17 : decode cX3_startOf 17 = .ok (.iload_n 3, 1) := by decide +kernel
theorem dX3_startOf_18 : decode cX3_startOf 18 = .ok (.ifCond .ne 23, 3) := by decide +kernel
theorem dX3_startOf_21 : decode cX3_startOf 21 = .ok (.aload_n 0, 1) := by decide +kernel
theorem dX3_startOf_22 : decode cX3_startOf 22 = .ok (.getfield 30, 3) := by decide +kernel
theorem dX3_startOf_25 : decode cX3_startOf 25 = .ok (.aload_n 1, 1) := by decide +kernel
theorem dX3_startOf_26 : decode cX3_startOf 26 = .ok (.getfield 59, 3) := by decide +kernel
theorem dX3_startOf_29 : decode cX3_startOf 29 = .ok (.aload_n 2, 1) := by decide +kernel
theorem dX3_startOf_30 : decode cX3_startOf 30 = .ok (.getfield 59, 3) := by decide +kernel
theorem dX3_startOf_33 : decode cX3_startOf 33 = .ok (.invokevirtual 64, 3) := by decide +kernel
theorem dX3_startOf_36 : decode cX3_startOf 36 = .ok (.ifCond .ne 5, 3) := by decide +kernel
theorem dX3_startOf_39 : decode cX3_startOf 39 = .ok (.iconst (-1), 1) := by decide +kernel
theorem dX3_startOf_40 : decode cX3_startOf 40 = .ok (.ireturn, 1) := by decide +kernel
theorem dX3_startOf_41 : decode cX3_startOf 41 = .ok (.aload_n 0, 1) := by decide +kernel
theorem dX3_startOf_42 : decode cX3_startOf 42 = .ok (.getfield 26, 3) := by decide +kernel
theorem dX3_startOf_45 : decode cX3_startOf 45 = .ok (.aload_n 2, 1) := by decide +kernel
theorem dX3_startOf_46 : decode cX3_startOf 46 = .ok (.getfield 70, 3) := by decide +kernel
