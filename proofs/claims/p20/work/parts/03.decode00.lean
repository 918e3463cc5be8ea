theorem dX0_init_0 : decode cX0_init 0 = .ok (.aload_n 0, 1) := by decide +kernel
theorem dX0_init_1 : decode cX0_init 1 = .ok (.invokespecial 3, 3) := by decide +kernel
theorem dX0_init_4 : decode cX0_init 4 = .ok (.aload_n 0, 1) := by decide +kernel
theorem dX0_init_5 : decode cX0_init 5 = .ok (.bipush 30, 2) := by decide +kernel
theorem dX0_init_7 : decode cX0_init 7 = .ok (.newarray .int, 2) := by decide +kernel
theorem dX0_init_9 : decode cX0_init 9 = .ok (.putfield 11, 3) := by decide +kernel
theorem dX0_init_12 : decode cX0_init 12 = .ok (.aload_n 0, 1) := by decide +kernel
theorem dX0_init_13 : decode cX0_init 13 = .ok (.iconst 0, 1) := by decide +kernel
theorem dX0_init_14 : decode cX0_init 14 = .ok (.putfield 15, 3) := by decide +kernel
theorem dX0_init_17 : decode cX0_init 17 = .ok (.return_, 1) := by decide +kernel
theorem dX0_has_0 : decode cX0_has 0 = .ok (.aload_n 0, 1) := by decide +kernel
theorem dX0_has_1 : decode cX0_has 1 = .ok (.iload_n 1, 1) := by decide +kernel
theorem dX0_has_2 : decode cX0_has 2 = .ok (.iload_n 2, 1) := by decide +kernel
theorem dX0_has_3 : decode cX0_has 3 = .ok (.invokevirtual 19, 3) := by decide +kernel
theorem dX0_has_6 : decode cX0_has 6 = .ok (.iconst (-1), 1) := by decide +kernel
theorem dX0_has_7 : decode cX0_has 7 = .ok (.if_icmp .eq 7, 3) := by decide +kernel
theorem dX0_has_10 : decode cX0_has 10 = .ok (.iconst 1, 1) := by decide +kernel
theorem dX0_has_11 : decode cX0_has 11 = .ok (.goto 4, 3) := by decide +kernel
theorem dX0_has_14 : decode cX0_has 14 = .ok (.iconst 0, 1) := by decide +kernel
theorem dX0_has_15 : decode cX0_has 15 = .ok (.ireturn, 1) := by decide +kernel
theorem dX0_add_0 : decode cX0_add 0 = .ok (.aload_n 0, 1) := by decide +kernel
theorem dX0_add_1 : decode cX0_add 1 = .ok (.getfield 15, 3) := by decide +kernel
theorem dX0_add_4 : decode cX0_add 4 = .ok (.bipush 30, 2) := by decide +kernel
theorem dX0_add_6 : decode cX0_add 6 = .ok (.if_icmp .ge 12, 3) := by decide +kernel
theorem dX0_add_9 : decode cX0_add 9 = .ok (.aload_n 0, 1) := by decide +kernel
theorem dX0_add_10 : decode cX0_add 10 = .ok (.iload_n 1, 1) := by decide +kernel
theorem dX0_add_11 : decode cX0_add 11 = .ok (.iload_n 2, 1) := by decide +kernel
theorem dX0_add_12 : decode cX0_add 12 = .ok (.invokevirtual 23, 3) := by decide +kernel
theorem dX0_add_15 : decode cX0_add 15 = .ok (.ifCond .eq 5, 3) := by decide +kernel
theorem dX0_add_18 : decode cX0_add 18 = .ok (.iconst 0, 1) := by decide +kernel
theorem dX0_add_19 : decode cX0_add 19 = .ok (.ireturn, 1) := by decide +kernel
theorem dX0_add_20 : decode cX0_add 20 = .ok (.aload_n 0, 1) := by decide +kernel
theorem dX0_add_21 : decode cX0_add 21 = .ok (.getfield 11, 3) := by decide +kernel
theorem dX0_add_24 : decode cX0_add 24 = .ok (.aload_n 0, 1) := by decide +kernel
theorem dX0_add_25 : decode cX0_add 25 = .ok (.getfield 15, 3) := by decide +kernel
theorem dX0_add_28 : decode cX0_add 28 = .ok (.iload_n 1, 1) := by decide +kernel
theorem dX0_add_29 : decode cX0_add 29 = .ok (.bipush 100, 2) := by decide +kernel
theorem dX0_add_31 : decode cX0_add 31 = .ok (.imul, 1) := by decide +kernel
theorem dX0_add_32 : decode cX0_add 32 = .ok (.iload_n 2, 1) := by decide +kernel
theorem dX0_add_33 : decode cX0_add 33 = .ok (.iadd, 1) := by decide +kernel
theorem dX0_add_34 : decode cX0_add 34 = .ok (.iastore, 1) := by decide +kernel
theorem dX0_add_35 : decode cX0_add 35 = .ok (.aload_n 0, 1) := by decide +kernel
theorem dX0_add_36 : decode cX0_add 36 = .ok (.dup, 1) := by decide +kernel
theorem dX0_add_37 : decode cX0_add 37 = .ok (.getfield 15, 3) := by decide +kernel
theorem dX0_add_40 : decode cX0_add 40 = .ok (.iconst 1, 1) := by decide +kernel
theorem dX0_add_41 : decode cX0_add 41 = .ok (.iadd, 1) := by decide +kernel
theorem dX0_add_42 : decode cX0_add 42 = .ok (.putfield 15, 3) := by decide +kernel
theorem dX0_add_45 : decode cX0_add 45 = .ok (.iconst 1, 1) := by decide +kernel
theorem dX0_add_46 : decode cX0_add 46 = .ok (.ireturn, 1) := by decide +kernel
theorem dX0_remove_0 : decode cX0_remove 0 = .ok (.aload_n 0, 1) := by decide +kernel
theorem dX0_remove_1 : decode cX0_remove 1 = .ok (.iload_n 1, 1) := by decide +kernel
theorem dX0_remove_2 : decode cX0_remove 2 = .ok (.iload_n 2, 1) := by decide +kernel
theorem dX0_remove_3 : decode cX0_remove 3 = .ok (.invokevirtual 19, 3) := by decide +kernel
theorem dX0_remove_6 : decode cX0_remove 6 = .ok (.istore_n 3, 1) := by decide +kernel
theorem dX0_remove_7 : decode cX0_remove 7 = .ok (.iload_n 3, 1) := by decide +kernel
theorem dX0_remove_8 : decode cX0_remove 8 = .ok (.iconst (-1), 1) := by decide +kernel
theorem dX0_remove_9 : decode cX0_remove 9 = .ok (.if_icmp .ne 5, 3) := by decide +kernel
theorem dX0_remove_12 : decode cX0_remove 12 = .ok (.iconst 0, 1) := by decide +kernel
theorem dX0_remove_13 : decode cX0_remove 13 = .ok (.ireturn, 1) := by decide +kernel
theorem dX0_remove_14 : decode cX0_remove 14 = .ok (.aload_n 0, 1) := by decide +kernel
theorem dX0_remove_15 : decode cX0_remove 15 = .ok (.dup, 1) := by decide +kernel
theorem dX0_remove_16 : decode cX0_remove 16 = .ok (.getfield 15, 3) := by decide +kernel
theorem dX0_remove_19 : decode cX0_remove 19 = .ok (.iconst 1, 1) := by decide +kernel
theorem dX0_remove_20 : decode cX0_remove 20 = .ok (.isub, 1) := by decide +kernel
theorem dX0_remove_21 : decode cX0_remove 21 = .ok (.putfield 15, 3) := by decide +kernel
theorem dX0_remove_24 : decode cX0_remove 24 = .ok (.aload_n 0, 1) := by decide +kernel
theorem dX0_remove_25 : decode cX0_remove 25 = .ok (.getfield 11, 3) := by decide +kernel
theorem dX0_remove_28 : decode cX0_remove 28 = .ok (.iload_n 3, 1) := by decide +kernel
theorem dX0_remove_29 : decode cX0_remove 29 = .ok (.aload_n 0, 1) := by decide +kernel
theorem dX0_remove_30 : decode cX0_remove 30 = .ok (.getfield 11, 3) := by decide +kernel
theorem dX0_remove_33 : decode cX0_remove 33 = .ok (.aload_n 0, 1) := by decide +kernel
theorem dX0_remove_34 : decode cX0_remove 34 = .ok (.getfield 15, 3) := by decide +kernel
theorem dX0_remove_37 : decode cX0_remove 37 = .ok (.iaload, 1) := by decide +kernel
theorem dX0_remove_38 : decode cX0_remove 38 = .ok (.iastore, 1) := by decide +kernel
theorem dX0_remove_39 : decode cX0_remove 39 = .ok (.iconst 1, 1) := by decide +kernel
theorem dX0_remove_40 : decode cX0_remove 40 = .ok (.ireturn, 1) := by decide +kernel
theorem dX0_placeOf_0 : decode cX0_placeOf 0 = .ok (.iconst 0, 1) := by decide +kernel
theorem dX0_placeOf_1 : decode cX0_placeOf 1 = .ok (.istore_n 3, 1) := by decide +kernel
theorem dX0_placeOf_2 : decode cX0_placeOf 2 = .ok (.iload_n 3, 1) := by decide +kernel
theorem dX0_placeOf_3 : decode cX0_placeOf 3 = .ok (.aload_n 0, 1) := by decide +kernel
theorem dX0_placeOf_4 : decode cX0_placeOf 4 = .ok (.getfield 15, 3) := by decide +kernel
theorem dX0_placeOf_7 : decode cX0_placeOf 7 = .ok (.if_icmp .ge 26, 3) := by decide +kernel
theorem dX0_placeOf_10 : decode cX0_placeOf 10 = .ok (.aload_n 0, 1) := by decide +kernel
theorem dX0_placeOf_11 : decode cX0_placeOf 11 = .ok (.getfield 11, 3) := by decide +kernel
theorem dX0_placeOf_14 : decode cX0_placeOf 14 = .ok (.iload_n 3, 1) := by decide +kernel
theorem dX0_placeOf_15 : decode cX0_placeOf 15 = .ok (.iaload, 1) := by decide +kernel
theorem dX0_placeOf_16 : decode cX0_placeOf 16 = .ok (.iload_n 1, 1) := by decide +kernel
theorem dX0_placeOf_17 : decode cX0_placeOf 17 = .ok (.bipush 100, 2) := by decide +kernel
theorem dX0_placeOf_19 : decode cX0_placeOf 19 = .ok (.imul, 1) := by decide +kernel
theorem dX0_placeOf_20 : decode cX0_placeOf 20 = .ok (.iload_n 2, 1) := by decide +kernel
theorem dX0_placeOf_21 : decode cX0_placeOf 21 = .ok (.iadd, 1) := by decide +kernel
theorem dX0_placeOf_22 : decode cX0_placeOf 22 = .ok (.if_icmp .ne 5, 3) := by decide +kernel
theorem dX0_placeOf_25 : decode cX0_placeOf 25 = .ok (.iload_n 3, 1) := by decide +kernel
theorem dX0_placeOf_26 : decode cX0_placeOf 26 = .ok (.ireturn, 1) := by decide +kernel
theorem dX0_placeOf_27 : decode cX0_placeOf 27 = .ok (.iinc 3 1, 3) := by decide +kernel
theorem dX0_placeOf_30 : decode cX0_placeOf 30 = .ok (.goto (-28), 3) := by decide +kernel
theorem dX0_placeOf_33 : decode cX0_placeOf 33 = .ok (.iconst (-1), 1) := by decide +kernel
theorem dX0_placeOf_34 : decode cX0_placeOf 34 = .ok (.ireturn, 1) := by decide +kernel
theorem dX1_init_0 : decode cX1_init 0 = .ok (.aload_n 0, 1) := by decide +kernel
theorem dX1_init_1 : decode cX1_init 1 = .ok (.invokespecial 3, 3) := by decide +kernel
theorem dX1_init_4 : decode cX1_init 4 = .ok (.aload_n 0, 1) := by decide +kernel
theorem dX1_init_5 : decode cX1_init 5 = .ok (.iconst 4, 1) := by decide +kernel
theorem dX1_init_6 : decode cX1_init 6 = .ok (.newarray .long, 2) := by decide +kernel
theorem dX1_init_8 : decode cX1_init 8 = .ok (.putfield 9, 3) := by decide +kernel
theorem dX1_init_11 : decode cX1_init 11 = .ok (.aload_n 0, 1) := by decide +kernel
theorem dX1_init_12 : decode cX1_init 12 = .ok (.bipush 11, 2) := by decide +kernel
theorem dX1_init_14 : decode cX1_init 14 = .ok (.anewarray 15, 3) := by decide +kernel
theorem dX1_init_17 : decode cX1_init 17 = .ok (.putfield 17, 3) := by decide +kernel
theorem dX1_init_20 : decode cX1_init 20 = .ok (.aload_n 0, 1) := by decide +kernel
theorem dX1_init_21 : decode cX1_init 21 = .ok (.bipush 40, 2) := by decide +kernel
theorem dX1_init_23 : decode cX1_init 23 = .ok (.newarray .int, 2) := by decide +kernel
theorem dX1_init_25 : decode cX1_init 25 = .ok (.putfield 21, 3) := by decide +kernel
theorem dX1_init_28 : decode cX1_init 28 = .ok (.aload_n 0, 1) := by decide +kernel
theorem dX1_init_29 : decode cX1_init 29 = .ok (.iconst 0, 1) := by decide +kernel
theorem dX1_init_30 : decode cX1_init 30 = .ok (.putfield 25, 3) := by decide +kernel
theorem dX1_init_33 : decode cX1_init 33 = .ok (.aload_n 0, 1) := by decide +kernel
theorem dX1_init_34 : decode cX1_init 34 = .ok (.iconst 4, 1) := by decide +kernel
theorem dX1_init_35 : decode cX1_init 35 = .ok (.newarray .long, 2) := by decide +kernel
theorem dX1_init_37 : decode cX1_init 37 = .ok (.putfield 29, 3) := by decide +kernel
theorem dX1_init_40 : decode cX1_init 40 = .ok (.aload_n 0, 1) := by decide +kernel
theorem dX1_init_41 : decode cX1_init 41 = .ok (.iconst 4, 1) := by decide +kernel
theorem dX1_init_42 : decode cX1_init 42 = .ok (.newarray .long, 2) := by decide +kernel
theorem dX1_init_44 : decode cX1_init 44 = .ok (.putfield 32, 3) := by decide +kernel
theorem dX1_init_47 : decode cX1_init 47 = .ok (.aload_n 0, 1) := by decide +kernel
theorem dX1_init_48 : decode cX1_init 48 = .ok (.lconst 0, 1) := by decide +kernel
theorem dX1_init_49 : decode cX1_init 49 = .ok (.putfield 35, 3) := by decide +kernel
theorem dX1_init_52 : decode cX1_init 52 = .ok (.aload_n 0, 1) := by decide +kernel
theorem dX1_init_53 : decode cX1_init 53 = .ok (.aload_n 1, 1) := by decide +kernel
theorem dX1_init_54 : decode cX1_init 54 = .ok (.putfield 39, 3) := by decide +kernel
theorem dX1_init_57 : decode cX1_init 57 = .ok (.aload_n 0, 1) := by decide +kernel
theorem dX1_init_58 : decode cX1_init 58 = .ok (.aload_n 2, 1) := by decide +kernel
theorem dX1_init_59 : decode cX1_init 59 = .ok (.putfield 43, 3) := by decide +kernel
theorem dX1_init_62 : decode cX1_init 62 = .ok (.aload_n 0, 1) := by decide +kernel
theorem dX1_init_63 : decode cX1_init 63 = .ok (.aload_n 3, 1) := by decide +kernel
theorem dX1_init_64 : decode cX1_init 64 = .ok (.putfield 47, 3) := by decide +kernel
theorem dX1_init_67 : decode cX1_init 67 = .ok (.aload_n 0, 1) := by decide +kernel
theorem dX1_init_68 : decode cX1_init 68 = .ok (.aload 4, 2) := by decide +kernel
theorem dX1_init_70 : decode cX1_init 70 = .ok (.putfield 51, 3) := by decide +kernel
theorem dX1_init_73 : decode cX1_init 73 = .ok (.new 15, 3) := by decide +kernel
theorem dX1_init_76 : decode cX1_init 76 = .ok (.dup, 1) := by decide +kernel
theorem dX1_init_77 : decode cX1_init 77 = .ok (.invokespecial 55, 3) := by decide +kernel
theorem dX1_init_80 : decode cX1_init 80 = .ok (.astore 5, 2) := by decide +kernel
theorem dX1_init_82 : decode cX1_init 82 = .ok (.iconst 0, 1) := by decide +kernel
theorem dX1_init_83 : decode cX1_init 83 = .ok (.istore 6, 2) := by decide +kernel
theorem dX1_init_85 : decode cX1_init 85 = .ok (.iload 6, 2) := by decide +kernel
theorem dX1_init_87 : decode cX1_init 87 = .ok (.bipush 10, 2) := by decide +kernel
theorem dX1_init_89 : decode cX1_init 89 = .ok (.if_icmp .gt 18, 3) := by decide +kernel
theorem dX1_init_92 : decode cX1_init 92 = .ok (.aload_n 0, 1) := by decide +kernel
theorem dX1_init_93 : decode cX1_init 93 = .ok (.getfield 17, 3) := by decide +kernel
theorem dX1_init_96 : decode cX1_init 96 = .ok (.iload 6, 2) := by decide +kernel
theorem dX1_init_98 : decode cX1_init 98 = .ok (.aload 5, 2) := by decide +kernel
theorem dX1_init_100 : decode cX1_init 100 = .ok (.aastore, 1) := by decide +kernel
theorem dX1_init_101 : decode cX1_init 101 = .ok (.iinc 6 1, 3) := by decide +kernel
theorem dX1_init_104 : decode cX1_init 104 = .ok (.goto (-19), 3) := by decide +kernel
theorem dX1_init_107 : decode cX1_init 107 = .ok (.return_, 1) := by decide +kernel
theorem dX1_begin_0 : decode cX1_begin 0 = .ok (.aload_n 0, 1) := by decide +kernel
theorem dX1_begin_1 : decode cX1_begin 1 = .ok (.getfield 17, 3) := by decide +kernel
theorem dX1_begin_4 : decode cX1_begin 4 = .ok (.iconst 0, 1) := by decide +kernel
theorem dX1_begin_5 : decode cX1_begin 5 = .ok (.aload_n 1, 1) := by decide +kernel
theorem dX1_begin_6 : decode cX1_begin 6 = .ok (.aastore, 1) := by decide +kernel
theorem dX1_begin_7 : decode cX1_begin 7 = .ok (.aload_n 0, 1) := by decide +kernel
theorem dX1_begin_8 : decode cX1_begin 8 = .ok (.iconst 0, 1) := by decide +kernel
theorem dX1_begin_9 : decode cX1_begin 9 = .ok (.putfield 25, 3) := by decide +kernel
theorem dX1_begin_12 : decode cX1_begin 12 = .ok (.return_, 1) := by decide +kernel
theorem dX1_link_0 : decode cX1_link 0 = .ok (.aload_n 0, 1) := by decide +kernel
theorem dX1_link_1 : decode cX1_link 1 = .ok (.getfield 25, 3) := by decide +kernel
theorem dX1_link_4 : decode cX1_link 4 = .ok (.bipush 10, 2) := by decide +kernel
theorem dX1_link_6 : decode cX1_link 6 = .ok (.if_icmp .ge 23, 3) := by decide +kernel
theorem dX1_link_9 : decode cX1_link 9 = .ok (.aload_n 0, 1) := by decide +kernel
theorem dX1_link_10 : decode cX1_link 10 = .ok (.getfield 47, 3) := by decide +kernel
theorem dX1_link_13 : decode cX1_link 13 = .ok (.aload_n 0, 1) := by decide +kernel
theorem dX1_link_14 : decode cX1_link 14 = .ok (.getfield 17, 3) := by decide +kernel
theorem dX1_link_17 : decode cX1_link 17 = .ok (.aload_n 0, 1) := by decide +kernel
theorem dX1_link_18 : decode cX1_link 18 = .ok (.getfield 25, 3) := by decide +kernel
theorem dX1_link_21 : decode cX1_link 21 = .ok (.aaload, 1) := by decide +kernel
theorem dX1_link_22 : decode cX1_link 22 = .ok (.aload_n 1, 1) := by decide +kernel
theorem dX1_link_23 : decode cX1_link 23 = .ok (.invokevirtual 56, 3) := by decide +kernel
theorem dX1_link_26 : decode cX1_link 26 = .ok (.ifCond .ne 5, 3) := by decide +kernel
theorem dX1_link_29 : decode cX1_link 29 = .ok (.iconst 0, 1) := by decide +kernel
theorem dX1_link_30 : decode cX1_link 30 = .ok (.ireturn, 1) := by decide +kernel
theorem dX1_link_31 : decode cX1_link 31 = .ok (.aload_n 0, 1) := by decide +kernel
theorem dX1_link_32 : decode cX1_link 32 = .ok (.getfield 47, 3) := by decide +kernel
theorem dX1_link_35 : decode cX1_link 35 = .ok (.getfield 62, 3) := by decide +kernel
theorem dX1_link_38 : decode cX1_link 38 = .ok (.iconst 0, 1) := by decide +kernel
theorem dX1_link_39 : decode cX1_link 39 = .ok (.aload_n 0, 1) := by decide +kernel
theorem dX1_link_40 : decode cX1_link 40 = .ok (.getfield 21, 3) := by decide +kernel
theorem dX1_link_43 : decode cX1_link 43 = .ok (.aload_n 0, 1) := by decide +kernel
theorem dX1_link_44 : decode cX1_link 44 = .ok (.getfield 25, 3) := by decide +kernel
theorem dX1_link_47 : decode cX1_link 47 = .ok (.iconst 4, 1) := by decide +kernel
theorem dX1_link_48 : decode cX1_link 48 = .ok (.imul, 1) := by decide +kernel
theorem dX1_link_49 : decode cX1_link 49 = .ok (.iconst 4, 1) := by decide +kernel
theorem dX1_link_50 : decode cX1_link 50 = .ok (.invokestatic 63, 3) := by decide +kernel
theorem dX1_link_53 : decode cX1_link 53 = .ok (.aload_n 0, 1) := by decide +kernel
theorem dX1_link_54 : decode cX1_link 54 = .ok (.dup, 1) := by decide +kernel
theorem dX1_link_55 : decode cX1_link 55 = .ok (.getfield 25, 3) := by decide +kernel
theorem dX1_link_58 : decode cX1_link 58 = .ok (.iconst 1, 1) := by decide +kernel
theorem dX1_link_59 : decode cX1_link 59 = .ok (.iadd, 1) := by decide +kernel
theorem dX1_link_60 : decode cX1_link 60 = .ok (.putfield 25, 3) := by decide +kernel
theorem dX1_link_63 : decode cX1_link 63 = .ok (.aload_n 0, 1) := by decide +kernel
theorem dX1_link_64 : decode cX1_link 64 = .ok (.getfield 17, 3) := by decide +kernel
theorem dX1_link_67 : decode cX1_link 67 = .ok (.aload_n 0, 1) := by decide +kernel
theorem dX1_link_68 : decode cX1_link 68 = .ok (.getfield 25, 3) := by decide +kernel
theorem dX1_link_71 : decode cX1_link 71 = .ok (.aload_n 1, 1) := by decide +kernel
theorem dX1_link_72 : decode cX1_link 72 = .ok (.getfield 69, 3) := by decide +kernel
theorem dX1_link_75 : decode cX1_link 75 = .ok (.aload_n 0, 1) := by decide +kernel
theorem dX1_link_76 : decode cX1_link 76 = .ok (.getfield 47, 3) := by decide +kernel
theorem dX1_link_79 : decode cX1_link 79 = .ok (.getfield 74, 3) := by decide +kernel
theorem dX1_link_82 : decode cX1_link 82 = .ok (.aaload, 1) := by decide +kernel
theorem dX1_link_83 : decode cX1_link 83 = .ok (.aastore, 1) := by decide +kernel
theorem dX1_link_84 : decode cX1_link 84 = .ok (.iconst 1, 1) := by decide +kernel
theorem dX1_link_85 : decode cX1_link 85 = .ok (.ireturn, 1) := by decide +kernel
theorem dX1_perform_0 : decode cX1_perform 0 = .ok (.aload_n 0, 1) := by decide +kernel
theorem dX1_perform_1 : decode cX1_perform 1 = .ok (.invokevirtual 77, 3) := by decide +kernel
theorem dX1_perform_4 : decode cX1_perform 4 = .ok (.ifCond .eq 30, 3) := by decide +kernel
theorem dX1_perform_7 : decode cX1_perform 7 = .ok (.aload_n 0, 1) := by decide +kernel
theorem dX1_perform_8 : decode cX1_perform 8 = .ok (.invokevirtual 81, 3) := by decide +kernel
theorem dX1_perform_11 : decode cX1_perform 11 = .ok (.ifCond .eq 23, 3) := by decide +kernel
theorem dX1_perform_14 : decode cX1_perform 14 = .ok (.aload_n 0, 1) := by decide +kernel
theorem dX1_perform_15 : decode cX1_perform 15 = .ok (.aload_n 1, 1) := by decide +kernel
theorem dX1_perform_16 : decode cX1_perform 16 = .ok (.iload_n 2, 1) := by decide +kernel
theorem dX1_perform_17 : decode cX1_perform 17 = .ok (.invokevirtual 84, 3) := by decide +kernel
theorem dX1_perform_20 : decode cX1_perform 20 = .ok (.ifCond .eq 14, 3) := by decide +kernel
theorem dX1_perform_23 : decode cX1_perform 23 = .ok (.aload_n 0, 1) := by decide +kernel
theorem dX1_perform_24 : decode cX1_perform 24 = .ok (.invokevirtual 88, 3) := by decide +kernel
theorem dX1_perform_27 : decode cX1_perform 27 = .ok (.ifCond .eq 7, 3) := by decide +kernel
theorem dX1_perform_30 : decode cX1_perform 30 = .ok (.iconst 1, 1) := by decide +kernel
theorem dX1_perform_31 : decode cX1_perform 31 = .ok (.goto 4, 3) := by decide +kernel
theorem dX1_perform_34 : decode cX1_perform 34 = .ok (.iconst 0, 1) := by decide +kernel
theorem dX1_perform_35 : decode cX1_perform 35 = .ok (.istore_n 3, 1) := by decide +kernel
theorem dX1_perform_36 : decode cX1_perform 36 = .ok (.iload_n 3, 1) := by decide +kernel
theorem dX1_perform_37 : decode cX1_perform 37 = .ok (.ifCond .eq 30, 3) := by decide +kernel
theorem dX1_perform_40 : decode cX1_perform 40 = .ok (.aload_n 0, 1) := by decide +kernel
theorem dX1_perform_41 : decode cX1_perform 41 = .ok (.getfield 51, 3) := by decide +kernel
theorem dX1_perform_44 : decode cX1_perform 44 = .ok (.aload_n 0, 1) := by decide +kernel
theorem dX1_perform_45 : decode cX1_perform 45 = .ok (.getfield 35, 3) := by decide +kernel
theorem dX1_perform_48 : decode cX1_perform 48 = .ok (.putfield 91, 3) := by decide +kernel
theorem dX1_perform_51 : decode cX1_perform 51 = .ok (.aload_n 0, 1) := by decide +kernel
theorem dX1_perform_52 : decode cX1_perform 52 = .ok (.getfield 51, 3) := by decide +kernel
theorem dX1_perform_55 : decode cX1_perform 55 = .ok (.dup, 1) := by decide +kernel
theorem dX1_perform_56 : decode cX1_perform 56 = .ok (.getfield 96, 3) := by decide +kernel
theorem dX1_perform_59 : decode cX1_perform 59 = .ok (.iconst 1, 1) := by decide +kernel
theorem dX1_perform_60 : decode cX1_perform 60 = .ok (.iadd, 1) := by decide +kernel
theorem dX1_perform_61 : decode cX1_perform 61 = .ok (.putfield 96, 3) := by decide +kernel
theorem dX1_perform_64 : decode cX1_perform 64 = .ok (.goto 16, 3) := by decide +kernel
theorem dX1_perform_67 : decode cX1_perform 67 = .ok (.aload_n 0, 1) := by decide +kernel
theorem dX1_perform_68 : decode cX1_perform 68 = .ok (.getfield 51, 3) := by decide +kernel
theorem dX1_perform_71 : decode cX1_perform 71 = .ok (.dup, 1) := by decide +kernel
theorem dX1_perform_72 : decode cX1_perform 72 = .ok (.getfield 99, 3) := by decide +kernel
theorem dX1_perform_75 : decode cX1_perform 75 = .ok (.iconst 1, 1) := by decide +kernel
theorem dX1_perform_76 : decode cX1_perform 76 = .ok (.iadd, 1) := by decide +kernel
theorem dX1_perform_77 : decode cX1_perform 77 = .ok (.putfield 99, 3) := by decide +kernel
theorem dX1_perform_80 : decode cX1_perform 80 = .ok (.iload_n 3, 1) := by decide +kernel
theorem dX1_perform_81 : decode cX1_perform 81 = .ok (.ireturn, 1) := by decide +kernel
theorem dX1_takeHand_0 : decode cX1_takeHand 0 = .ok (.aload_n 0, 1) := by decide +kernel
theorem dX1_takeHand_1 : decode cX1_takeHand 1 = .ok (.getfield 17, 3) := by decide +kernel
theorem dX1_takeHand_4 : decode cX1_takeHand 4 = .ok (.iconst 0, 1) := by decide +kernel
theorem dX1_takeHand_5 : decode cX1_takeHand 5 = .ok (.aaload, 1) := by decide +kernel
theorem dX1_takeHand_6 : decode cX1_takeHand 6 = .ok (.astore_n 1, 1) := by decide +kernel
theorem dX1_takeHand_7 : decode cX1_takeHand 7 = .ok (.iconst 0, 1) := by decide +kernel
theorem dX1_takeHand_8 : decode cX1_takeHand 8 = .ok (.istore_n 2, 1) := by decide +kernel
theorem dX1_takeHand_9 : decode cX1_takeHand 9 = .ok (.iload_n 2, 1) := by decide +kernel
theorem dX1_takeHand_10 : decode cX1_takeHand 10 = .ok (.aload_n 1, 1) := by decide +kernel
theorem dX1_takeHand_11 : decode cX1_takeHand 11 = .ok (.getfield 102, 3) := by decide +kernel
theorem dX1_takeHand_14 : decode cX1_takeHand 14 = .ok (.if_icmp .ge 50, 3) := by decide +kernel
theorem dX1_takeHand_17 : decode cX1_takeHand 17 = .ok (.aload_n 1, 1) := by decide +kernel
theorem dX1_takeHand_18 : decode cX1_takeHand 18 = .ok (.getfield 105, 3) := by decide +kernel
theorem dX1_takeHand_21 : decode cX1_takeHand 21 = .ok (.iload_n 2, 1) := by decide +kernel
theorem dX1_takeHand_22 : decode cX1_takeHand 22 = .ok (.iaload, 1) := by decide +kernel
theorem dX1_takeHand_23 : decode cX1_takeHand 23 = .ok (.aload_n 0, 1) := by decide +kernel
theorem dX1_takeHand_24 : decode cX1_takeHand 24 = .ok (.getfield 9, 3) := by decide +kernel
theorem dX1_takeHand_27 : decode cX1_takeHand 27 = .ok (.iload_n 2, 1) := by decide +kernel
theorem dX1_takeHand_28 : decode cX1_takeHand 28 = .ok (.laload, 1) := by decide +kernel
theorem dX1_takeHand_29 : decode cX1_takeHand 29 = .ok (.invokestatic 108, 3) := by decide +kernel
theorem dX1_takeHand_32 : decode cX1_takeHand 32 = .ok (.ifCond .ne 14, 3) := by decide +kernel
theorem dX1_takeHand_35 : decode cX1_takeHand 35 = .ok (.aload_n 0, 1) := by decide +kernel
theorem dX1_takeHand_36 : decode cX1_takeHand 36 = .ok (.getfield 51, 3) := by decide +kernel
theorem dX1_takeHand_39 : decode cX1_takeHand 39 = .ok (.iconst 0, 1) := by decide +kernel
theorem dX1_takeHand_40 : decode cX1_takeHand 40 = .ok (.iconst (-1), 1) := by decide +kernel
theorem dX1_takeHand_41 : decode cX1_takeHand 41 = .ok (.invokevirtual 112, 3) := by decide +kernel
theorem dX1_takeHand_44 : decode cX1_takeHand 44 = .ok (.iconst 0, 1) := by decide +kernel
theorem dX1_takeHand_45 : decode cX1_takeHand 45 = .ok (.ireturn, 1) := by decide +kernel
theorem dX1_takeHand_46 : decode cX1_takeHand 46 = .ok (.aload_n 0, 1) := by decide +kernel
theorem dX1_takeHand_47 : decode cX1_takeHand 47 = .ok (.getfield 29, 3) := by decide +kernel
theorem dX1_takeHand_50 : decode cX1_takeHand 50 = .ok (.iload_n 2, 1) := by decide +kernel
theorem dX1_takeHand_51 : decode cX1_takeHand 51 = .ok (.aload_n 0, 1) := by decide +kernel
theorem dX1_takeHand_52 : decode cX1_takeHand 52 = .ok (.getfield 9, 3) := by decide +kernel
theorem dX1_takeHand_55 : decode cX1_takeHand 55 = .ok (.iload_n 2, 1) := by decide +kernel
theorem dX1_takeHand_56 : decode cX1_takeHand 56 = .ok (.laload, 1) := by decide +kernel
theorem dX1_takeHand_57 : decode cX1_takeHand 57 = .ok (.lastore, 1) := by decide +kernel
theorem dX1_takeHand_58 : decode cX1_takeHand 58 = .ok (.iinc 2 1, 3) := by decide +kernel
theorem dX1_takeHand_61 : decode cX1_takeHand 61 = .ok (.goto (-52), 3) := by decide +kernel
theorem dX1_takeHand_64 : decode cX1_takeHand 64 = .ok (.iconst 1, 1) := by decide +kernel
theorem dX1_takeHand_65 : decode cX1_takeHand 65 = .ok (.ireturn, 1) := by decide +kernel
theorem dX1_passIn_0 : decode cX1_passIn 0 = .ok (.iconst 0, 1) := by decide +kernel
theorem dX1_passIn_1 : decode cX1_passIn 1 = .ok (.istore_n 1, 1) := by decide +kernel
theorem dX1_passIn_2 : decode cX1_passIn 2 = .ok (.iload_n 1, 1) := by decide +kernel
theorem dX1_passIn_3 : decode cX1_passIn 3 = .ok (.aload_n 0, 1) := by decide +kernel
theorem dX1_passIn_4 : decode cX1_passIn 4 = .ok (.getfield 25, 3) := by decide +kernel
theorem dX1_passIn_7 : decode cX1_passIn 7 = .ok (.if_icmp .ge 52, 3) := by decide +kernel
theorem dX1_passIn_10 : decode cX1_passIn 10 = .ok (.aload_n 0, 1) := by decide +kernel
theorem dX1_passIn_11 : decode cX1_passIn 11 = .ok (.iload_n 1, 1) := by decide +kernel
theorem dX1_passIn_12 : decode cX1_passIn 12 = .ok (.invokevirtual 116, 3) := by decide +kernel
theorem dX1_passIn_15 : decode cX1_passIn 15 = .ok (.ifCond .ne 20, 3) := by decide +kernel
theorem dX1_passIn_18 : decode cX1_passIn 18 = .ok (.aload_n 0, 1) := by decide +kernel
theorem dX1_passIn_19 : decode cX1_passIn 19 = .ok (.getfield 51, 3) := by decide +kernel
theorem dX1_passIn_22 : decode cX1_passIn 22 = .ok (.iconst 1, 1) := by decide +kernel
theorem dX1_passIn_23 : decode cX1_passIn 23 = .ok (.aload_n 0, 1) := by decide +kernel
theorem dX1_passIn_24 : decode cX1_passIn 24 = .ok (.getfield 39, 3) := by decide +kernel
theorem dX1_passIn_27 : decode cX1_passIn 27 = .ok (.getfield 120, 3) := by decide +kernel
theorem dX1_passIn_30 : decode cX1_passIn 30 = .ok (.invokevirtual 112, 3) := by decide +kernel
theorem dX1_passIn_33 : decode cX1_passIn 33 = .ok (.iconst 0, 1) := by decide +kernel
theorem dX1_passIn_34 : decode cX1_passIn 34 = .ok (.ireturn, 1) := by decide +kernel
theorem dX1_passIn_35 : decode cX1_passIn 35 = .ok (.aload_n 0, 1) := by decide +kernel
theorem dX1_passIn_36 : decode cX1_passIn 36 = .ok (.getfield 29, 3) := by decide +kernel
theorem dX1_passIn_39 : decode cX1_passIn 39 = .ok (.astore_n 2, 1) := by decide +kernel
theorem dX1_passIn_40 : decode cX1_passIn 40 = .ok (.aload_n 0, 1) := by decide +kernel
theorem dX1_passIn_41 : decode cX1_passIn 41 = .ok (.aload_n 0, 1) := by decide +kernel
theorem dX1_passIn_42 : decode cX1_passIn 42 = .ok (.getfield 32, 3) := by decide +kernel
theorem dX1_passIn_45 : decode cX1_passIn 45 = .ok (.putfield 29, 3) := by decide +kernel
theorem dX1_passIn_48 : decode cX1_passIn 48 = .ok (.aload_n 0, 1) := by decide +kernel
theorem dX1_passIn_49 : decode cX1_passIn 49 = .ok (.aload_n 2, 1) := by decide +kernel
theorem dX1_passIn_50 : decode cX1_passIn 50 = .ok (.putfield 32, 3) := by decide +kernel
theorem dX1_passIn_53 : decode cX1_passIn 53 = .ok (.iinc 1 1, 3) := by decide +kernel
theorem dX1_passIn_56 : decode cX1_passIn 56 = .ok (.goto (-54), 3) := by decide +kernel
theorem dX1_passIn_59 : decode cX1_passIn 59 = .ok (.iconst 1, 1) := by decide +kernel
theorem dX1_passIn_60 : decode cX1_passIn 60 = .ok (.ireturn, 1) := by decide +kernel
theorem dX1_passTo_0 : decode cX1_passTo 0 = .ok (.aload_n 0, 1) := by decide +kernel
theorem dX1_passTo_1 : decode cX1_passTo 1 = .ok (.getfield 17, 3) := by decide +kernel
theorem dX1_passTo_4 : decode cX1_passTo 4 = .ok (.iload_n 1, 1) := by decide +kernel
theorem dX1_passTo_5 : decode cX1_passTo 5 = .ok (.aaload, 1) := by decide +kernel
theorem dX1_passTo_6 : decode cX1_passTo 6 = .ok (.astore_n 2, 1) := by decide +kernel
theorem dX1_passTo_7 : decode cX1_passTo 7 = .ok (.aload_n 0, 1) := by decide +kernel
theorem dX1_passTo_8 : decode cX1_passTo 8 = .ok (.getfield 17, 3) := by decide +kernel
theorem dX1_passTo_11 : decode cX1_passTo 11 = .ok (.iload_n 1, 1) := by decide +kernel
theorem dX1_passTo_12 : decode cX1_passTo 12 = .ok (.iconst 1, 1) := by decide +kernel
theorem dX1_passTo_13 : decode cX1_passTo 13 = .ok (.iadd, 1) := by decide +kernel
theorem dX1_passTo_14 : decode cX1_passTo 14 = .ok (.aaload, 1) := by decide +kernel
theorem dX1_passTo_15 : decode cX1_passTo 15 = .ok (.astore_n 3, 1) := by decide +kernel
theorem dX1_passTo_16 : decode cX1_passTo 16 = .ok (.iconst 0, 1) := by decide +kernel
theorem dX1_passTo_17 : decode cX1_passTo 17 = .ok (.istore 4, 2) := by decide +kernel
theorem dX1_passTo_19 : decode cX1_passTo 19 = .ok (.iload 4, 2) := by decide +kernel
theorem dX1_passTo_21 : decode cX1_passTo 21 = .ok (.aload_n 3, 1) := by decide +kernel
theorem dX1_passTo_22 : decode cX1_passTo 22 = .ok (.getfield 102, 3) := by decide +kernel
theorem dX1_passTo_25 : decode cX1_passTo 25 = .ok (.if_icmp .ge 104, 3) := by decide +kernel
theorem dX1_passTo_28 : decode cX1_passTo 28 = .ok (.aload_n 0, 1) := by decide +kernel
theorem dX1_passTo_29 : decode cX1_passTo 29 = .ok (.getfield 21, 3) := by decide +kernel
theorem dX1_passTo_32 : decode cX1_passTo 32 = .ok (.iload_n 1, 1) := by decide +kernel
theorem dX1_passTo_33 : decode cX1_passTo 33 = .ok (.iconst 4, 1) := by decide +kernel
theorem dX1_passTo_34 : decode cX1_passTo 34 = .ok (.imul, 1) := by decide +kernel
theorem dX1_passTo_35 : decode cX1_passTo 35 = .ok (.iload 4, 2) := by decide +kernel
theorem dX1_passTo_37 : decode cX1_passTo 37 = .ok (.iadd, 1) := by decide +kernel
theorem dX1_passTo_38 : decode cX1_passTo 38 = .ok (.iaload, 1) := by decide +kernel
theorem dX1_passTo_39 : decode cX1_passTo 39 = .ok (.istore 5, 2) := by decide +kernel
theorem dX1_passTo_41 : decode cX1_passTo 41 = .ok (.iload 5, 2) := by decide +kernel
theorem dX1_passTo_43 : decode cX1_passTo 43 = .ok (.bipush 9, 2) := by decide +kernel
theorem dX1_passTo_45 : decode cX1_passTo 45 = .ok (.if_icmp .ne 28, 3) := by decide +kernel
theorem dX1_passTo_48 : decode cX1_passTo 48 = .ok (.aload_n 0, 1) := by decide +kernel
theorem dX1_passTo_49 : decode cX1_passTo 49 = .ok (.getfield 32, 3) := by decide +kernel
theorem dX1_passTo_52 : decode cX1_passTo 52 = .ok (.iload 4, 2) := by decide +kernel
theorem dX1_passTo_54 : decode cX1_passTo 54 = .ok (.aload_n 0, 1) := by decide +kernel
theorem dX1_passTo_55 : decode cX1_passTo 55 = .ok (.getfield 43, 3) := by decide +kernel
theorem dX1_passTo_58 : decode cX1_passTo 58 = .ok (.getfield 125, 3) := by decide +kernel
theorem dX1_passTo_61 : decode cX1_passTo 61 = .ok (.aload_n 3, 1) := by decide +kernel
theorem dX1_passTo_62 : decode cX1_passTo 62 = .ok (.getfield 105, 3) := by decide +kernel
theorem dX1_passTo_65 : decode cX1_passTo 65 = .ok (.iload 4, 2) := by decide +kernel
theorem dX1_passTo_67 : decode cX1_passTo 67 = .ok (.iaload, 1) := by decide +kernel
theorem dX1_passTo_68 : decode cX1_passTo 68 = .ok (.laload, 1) := by decide +kernel
theorem dX1_passTo_69 : decode cX1_passTo 69 = .ok (.lastore, 1) := by decide +kernel
theorem dX1_passTo_70 : decode cX1_passTo 70 = .ok (.goto 53, 3) := by decide +kernel
theorem dX1_passTo_73 : decode cX1_passTo 73 = .ok (.aload_n 0, 1) := by decide +kernel
theorem dX1_passTo_74 : decode cX1_passTo 74 = .ok (.getfield 39, 3) := by decide +kernel
theorem dX1_passTo_77 : decode cX1_passTo 77 = .ok (.aload_n 2, 1) := by decide +kernel
theorem dX1_passTo_78 : decode cX1_passTo 78 = .ok (.getfield 105, 3) := by decide +kernel
theorem dX1_passTo_81 : decode cX1_passTo 81 = .ok (.iload 5, 2) := by decide +kernel
theorem dX1_passTo_83 : decode cX1_passTo 83 = .ok (.iaload, 1) := by decide +kernel
theorem dX1_passTo_84 : decode cX1_passTo 84 = .ok (.aload_n 3, 1) := by decide +kernel
theorem dX1_passTo_85 : decode cX1_passTo 85 = .ok (.getfield 105, 3) := by decide +kernel
theorem dX1_passTo_88 : decode cX1_passTo 88 = .ok (.iload 4, 2) := by decide +kernel
theorem dX1_passTo_90 : decode cX1_passTo 90 = .ok (.iaload, 1) := by decide +kernel
theorem dX1_passTo_91 : decode cX1_passTo 91 = .ok (.aload_n 0, 1) := by decide +kernel
theorem dX1_passTo_92 : decode cX1_passTo 92 = .ok (.getfield 29, 3) := by decide +kernel
theorem dX1_passTo_95 : decode cX1_passTo 95 = .ok (.iload 5, 2) := by decide +kernel
theorem dX1_passTo_97 : decode cX1_passTo 97 = .ok (.laload, 1) := by decide +kernel
theorem dX1_passTo_98 : decode cX1_passTo 98 = .ok (.invokevirtual 130, 3) := by decide +kernel
theorem dX1_passTo_101 : decode cX1_passTo 101 = .ok (.ifCond .eq 20, 3) := by decide +kernel
theorem dX1_passTo_104 : decode cX1_passTo 104 = .ok (.aload_n 0, 1) := by decide +kernel
theorem dX1_passTo_105 : decode cX1_passTo 105 = .ok (.getfield 32, 3) := by decide +kernel
theorem dX1_passTo_108 : decode cX1_passTo 108 = .ok (.iload 4, 2) := by decide +kernel
theorem dX1_passTo_110 : decode cX1_passTo 110 = .ok (.aload_n 0, 1) := by decide +kernel
theorem dX1_passTo_111 : decode cX1_passTo 111 = .ok (.getfield 39, 3) := by decide +kernel
theorem dX1_passTo_114 : decode cX1_passTo 114 = .ok (.getfield 134, 3) := by decide +kernel
theorem dX1_passTo_117 : decode cX1_passTo 117 = .ok (.lastore, 1) := by decide +kernel
theorem dX1_passTo_118 : decode cX1_passTo 118 = .ok (.goto 5, 3) := by decide +kernel
theorem dX1_passTo_121 : decode cX1_passTo 121 = .ok (.iconst 0, 1) := by decide +kernel
theorem dX1_passTo_122 : decode cX1_passTo 122 = .ok (.ireturn, 1) := by decide +kernel
theorem dX1_passTo_123 : decode cX1_passTo 123 = .ok (.iinc 4 1, 3) := by decide +kernel
theorem dX1_passTo_126 : decode cX1_passTo 126 = .ok (.goto (-107), 3) := by decide +kernel
theorem dX1_passTo_129 : decode cX1_passTo 129 = .ok (.iconst 1, 1) := by decide +kernel
theorem dX1_passTo_130 : decode cX1_passTo 130 = .ok (.ireturn, 1) := by decide +kernel
theorem dX1_doWork_0 : decode cX1_doWork 0 = .ok (.aload_n 0, 1) := by decide +kernel
