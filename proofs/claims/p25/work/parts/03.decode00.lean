theorem dX0_init_0 : decode cX0_init 0 = .ok (.aload_n 0, 1) := by decide +kernel
theorem dX0_init_1 : decode cX0_init 1 = .ok (.invokespecial 3, 3) := by decide +kernel
theorem dX0_init_4 : decode cX0_init 4 = .ok (.aload_n 0, 1) := by decide +kernel
theorem dX0_init_5 : decode cX0_init 5 = .ok (.bipush 30, 2) := by decide +kernel
theorem dX0_init_7 : decode cX0_init 7 = .ok (.newarray .int, 2) := by decide +kernel
theorem dX0_init_9 : decode cX0_init 9 = .ok (.putfield 11, 3) := by decide +kernel
theorem dX0_init_12 : decode cX0_init 12 = .ok (.aload_n 0, 1) := by decide +kernel
theorem dX0_init_13 : decode cX0_init 13 = .ok (.iconst 0, 1) := by decide +kernel
theorem dX0_init_14 : decode cX0_init 14 = .ok (.putfield 15, 3) := by decide +kernel
theorem dX0_init_17 : decode cX0_init 17 = .ok (.return_, 1) := by decide +kernel
theorem dX0_has_0 : decode cX0_has 0 = .ok (.aload_n 0, 1) := by decide +kernel
theorem dX0_has_1 : decode cX0_has 1 = .ok (.iload_n 1, 1) := by decide +kernel
theorem dX0_has_2 : decode cX0_has 2 = .ok (.iload_n 2, 1) := by decide +kernel
theorem dX0_has_3 : decode cX0_has 3 = .ok (.invokevirtual 19, 3) := by decide +kernel
theorem dX0_has_6 : decode cX0_has 6 = .ok (.iconst (-1), 1) := by decide +kernel
theorem dX0_has_7 : decode cX0_has 7 = .ok (.if_icmp .eq 7, 3) := by decide +kernel
theorem dX0_has_10 : decode cX0_has 10 = .ok (.iconst 1, 1) := by decide +kernel
theorem dX0_has_11 : decode cX0_has 11 = .ok (.goto 4, 3) := by decide +kernel
theorem dX0_has_14 : decode cX0_has 14 = .ok (.iconst 0, 1) := by decide +kernel
theorem dX0_has_15 : decode cX0_has 15 = .ok (.ireturn, 1) := by decide +kernel
theorem dX0_add_0 : decode cX0_add 0 = .ok (.aload_n 0, 1) := by decide +kernel
theorem dX0_add_1 : decode cX0_add 1 = .ok (.getfield 15, 3) := by decide +kernel
theorem dX0_add_4 : decode cX0_add 4 = .ok (.bipush 30, 2) := by decide +kernel
theorem dX0_add_6 : decode cX0_add 6 = .ok (.if_icmp .ge 12, 3) := by decide +kernel
theorem dX0_add_9 : decode cX0_add 9 = .ok (.aload_n 0, 1) := by decide +kernel
theorem dX0_add_10 : decode cX0_add 10 = .ok (.iload_n 1, 1) := by decide +kernel
theorem dX0_add_11 : decode cX0_add 11 = .ok (.iload_n 2, 1) := by decide +kernel
theorem dX0_add_12 : decode cX0_add 12 = .ok (.invokevirtual 23, 3) := by decide +kernel
theorem dX0_add_15 : decode cX0_add 15 = .ok (.ifCond .eq 5, 3) := by decide +kernel
theorem dX0_add_18 : decode cX0_add 18 = .ok (.iconst 0, 1) := by decide +kernel
theorem dX0_add_19 : decode cX0_add 19 = .ok (.ireturn, 1) := by decide +kernel
theorem dX0_add_20 : decode cX0_add 20 = .ok (.aload_n 0, 1) := by decide +kernel
theorem dX0_add_21 : decode cX0_add 21 = .ok (.getfield 11, 3) := by decide +kernel
theorem dX0_add_24 : decode cX0_add 24 = .ok (.aload_n 0, 1) := by decide +kernel
theorem dX0_add_25 : decode cX0_add 25 = .ok (.getfield 15, 3) := by decide +kernel
theorem dX0_add_28 : decode cX0_add 28 = .ok (.iload_n 1, 1) := by decide +kernel
theorem dX0_add_29 : decode cX0_add 29 = .ok (.bipush 100, 2) := by decide +kernel
theorem dX0_add_31 : decode cX0_add 31 = .ok (.imul, 1) := by decide +kernel
theorem dX0_add_32 : decode cX0_add 32 = .ok (.iload_n 2, 1) := by decide +kernel
theorem dX0_add_33 : decode cX0_add 33 = .ok (.iadd, 1) := by decide +kernel
theorem dX0_add_34 : decode cX0_add 34 = .ok (.iastore, 1) := by decide +kernel
theorem dX0_add_35 : decode cX0_add 35 = .ok (.aload_n 0, 1) := by decide +kernel
theorem dX0_add_36 : decode cX0_add 36 = .ok (.dup, 1) := by decide +kernel
theorem dX0_add_37 : decode cX0_add 37 = .ok (.getfield 15, 3) := by decide +kernel
theorem dX0_add_40 : decode cX0_add 40 = .ok (.iconst 1, 1) := by decide +kernel
theorem dX0_add_41 : decode cX0_add 41 = .ok (.iadd, 1) := by decide +kernel
theorem dX0_add_42 : decode cX0_add 42 = .ok (.putfield 15, 3) := by decide +kernel
theorem dX0_add_45 : decode cX0_add 45 = .ok (.iconst 1, 1) := by decide +kernel
theorem dX0_add_46 : decode cX0_add 46 = .ok (.ireturn, 1) := by decide +kernel
theorem dX0_remove_0 : decode cX0_remove 0 = .ok (.aload_n 0, 1) := by decide +kernel
theorem dX0_remove_1 : decode cX0_remove 1 = .ok (.iload_n 1, 1) := by decide +kernel
theorem dX0_remove_2 : decode cX0_remove 2 = .ok (.iload_n 2, 1) := by decide +kernel
theorem dX0_remove_3 : decode cX0_remove 3 = .ok (.invokevirtual 19, 3) := by decide +kernel
theorem dX0_remove_6 : decode cX0_remove 6 = .ok (.istore_n 3, 1) := by decide +kernel
theorem dX0_remove_7 : decode cX0_remove 7 = .ok (.iload_n 3, 1) := by decide +kernel
theorem dX0_remove_8 : decode cX0_remove 8 = .ok (.iconst (-1), 1) := by decide +kernel
theorem dX0_remove_9 : decode cX0_remove 9 = .ok (.if_icmp .ne 5, 3) := by decide +kernel
theorem dX0_remove_12 : decode cX0_remove 12 = .ok (.iconst 0, 1) := by decide +kernel
theorem dX0_remove_13 : decode cX0_remove 13 = .ok (.ireturn, 1) := by decide +kernel
theorem dX0_remove_14 : decode cX0_remove 14 = .ok (.aload_n 0, 1) := by decide +kernel
theorem dX0_remove_15 : decode cX0_remove 15 = .ok (.dup, 1) := by decide +kernel
theorem dX0_remove_16 : decode cX0_remove 16 = .ok (.getfield 15, 3) := by decide +kernel
theorem dX0_remove_19 : decode cX0_remove 19 = .ok (.iconst 1, 1) := by decide +kernel
theorem dX0_remove_20 : decode cX0_remove 20 = .ok (.isub, 1) := by decide +kernel
theorem dX0_remove_21 : decode cX0_remove 21 = .ok (.putfield 15, 3) := by decide +kernel
theorem dX0_remove_24 : decode cX0_remove 24 = .ok (.aload_n 0, 1) := by decide +kernel
theorem dX0_remove_25 : decode cX0_remove 25 = .ok (.getfield 11, 3) := by decide +kernel
theorem dX0_remove_28 : decode cX0_remove 28 = .ok (.iload_n 3, 1) := by decide +kernel
theorem dX0_remove_29 : decode cX0_remove 29 = .ok (.aload_n 0, 1) := by decide +kernel
theorem dX0_remove_30 : decode cX0_remove 30 = .ok (.getfield 11, 3) := by decide +kernel
theorem dX0_remove_33 : decode cX0_remove 33 = .ok (.aload_n 0, 1) := by decide +kernel
theorem dX0_remove_34 : decode cX0_remove 34 = .ok (.getfield 15, 3) := by decide +kernel
theorem dX0_remove_37 : decode cX0_remove 37 = .ok (.iaload, 1) := by decide +kernel
theorem dX0_remove_38 : decode cX0_remove 38 = .ok (.iastore, 1) := by decide +kernel
theorem dX0_remove_39 : decode cX0_remove 39 = .ok (.iconst 1, 1) := by decide +kernel
theorem dX0_remove_40 : decode cX0_remove 40 = .ok (.ireturn, 1) := by decide +kernel
theorem dX0_placeOf_0 : decode cX0_placeOf 0 = .ok (.iconst 0, 1) := by decide +kernel
theorem dX0_placeOf_1 : decode cX0_placeOf 1 = .ok (.istore_n 3, 1) := by decide +kernel
theorem dX0_placeOf_2 : decode cX0_placeOf 2 = .ok (.iload_n 3, 1) := by decide +kernel
theorem dX0_placeOf_3 : decode cX0_placeOf 3 = .ok (.aload_n 0, 1) := by decide +kernel
theorem dX0_placeOf_4 : decode cX0_placeOf 4 = .ok (.getfield 15, 3) := by decide +kernel
theorem dX0_placeOf_7 : decode cX0_placeOf 7 = .ok (.if_icmp .ge 26, 3) := by decide +kernel
theorem dX0_placeOf_10 : decode cX0_placeOf 10 = .ok (.aload_n 0, 1) := by decide +kernel
theorem dX0_placeOf_11 : decode cX0_placeOf 11 = .ok (.getfield 11, 3) := by decide +kernel
theorem dX0_placeOf_14 : decode cX0_placeOf 14 = .ok (.iload_n 3, 1) := by decide +kernel
theorem dX0_placeOf_15 : decode cX0_placeOf 15 = .ok (.iaload, 1) := by decide +kernel
theorem dX0_placeOf_16 : decode cX0_placeOf 16 = .ok (.iload_n 1, 1) := by decide +kernel
theorem dX0_placeOf_17 : decode cX0_placeOf 17 = .ok (.bipush 100, 2) := by decide +kernel
theorem dX0_placeOf_19 : decode cX0_placeOf 19 = .ok (.imul, 1) := by decide +kernel
theorem dX0_placeOf_20 : decode cX0_placeOf 20 = .ok (.iload_n 2, 1) := by decide +kernel
theorem dX0_placeOf_21 : decode cX0_placeOf 21 = .ok (.iadd, 1) := by decide +kernel
theorem dX0_placeOf_22 : decode cX0_placeOf 22 = .ok (.if_icmp .ne 5, 3) := by decide +kernel
theorem dX0_placeOf_25 : decode cX0_placeOf 25 = .ok (.iload_n 3, 1) := by decide +kernel
theorem dX0_placeOf_26 : decode cX0_placeOf 26 = .ok (.ireturn, 1) := by decide +kernel
theorem dX0_placeOf_27 : decode cX0_placeOf 27 = .ok (.iinc 3 1, 3) := by decide +kernel
theorem dX0_placeOf_30 : decode cX0_placeOf 30 = .ok (.goto (-28), 3) := by decide +kernel
theorem dX0_placeOf_33 : decode cX0_placeOf 33 = .ok (.iconst (-1), 1) := by decide +kernel
theorem dX0_placeOf_34 : decode cX0_placeOf 34 = .ok (.ireturn, 1) := by decide +kernel
theorem dX1_init_0 : decode cX1_init 0 = .ok (.aload_n 0, 1) := by decide +kernel
theorem dX1_init_1 : decode cX1_init 1 = .ok (.invokespecial 3, 3) := by decide +kernel
theorem dX1_init_4 : decode cX1_init 4 = .ok (.aload_n 0, 1) := by decide +kernel
theorem dX1_init_5 : decode cX1_init 5 = .ok (.iconst 4, 1) := by decide +kernel
theorem dX1_init_6 : decode cX1_init 6 = .ok (.newarray .long, 2) := by decide +kernel
theorem dX1_init_8 : decode cX1_init 8 = .ok (.putfield 9, 3) := by decide +kernel
theorem dX1_init_11 : decode cX1_init 11 = .ok (.aload_n 0, 1) := by decide +kernel
theorem dX1_init_12 : decode cX1_init 12 = .ok (.bipush 11, 2) := by decide +kernel
theorem dX1_init_14 : decode cX1_init 14 = .ok (.anewarray 15, 3) := by decide +kernel
theorem dX1_init_17 : decode cX1_init 17 = .ok (.putfield 17, 3) := by decide +kernel
theorem dX1_init_20 : decode cX1_init 20 = .ok (.aload_n 0, 1) := by decide +kernel
theorem dX1_init_21 : decode cX1_init 21 = .ok (.bipush 40, 2) := by decide +kernel
theorem dX1_init_23 : decode cX1_init 23 = .ok (.newarray .int, 2) := by decide +kernel
theorem dX1_init_25 : decode cX1_init 25 = .ok (.putfield 21, 3) := by decide +kernel
theorem dX1_init_28 : decode cX1_init 28 = .ok (.aload_n 0, 1) := by decide +kernel
theorem dX1_init_29 : decode cX1_init 29 = .ok (.iconst 0, 1) := by decide +kernel
theorem dX1_init_30 : decode cX1_init 30 = .ok (.putfield 25, 3) := by decide +kernel
theorem dX1_init_33 : decode cX1_init 33 = .ok (.aload_n 0, 1) := by decide +kernel
theorem dX1_init_34 : decode cX1_init 34 = .ok (.iconst 4, 1) := by decide +kernel
theorem dX1_init_35 : decode cX1_init 35 = .ok (.newarray .long, 2) := by decide +kernel
theorem dX1_init_37 : decode cX1_init 37 = .ok (.putfield 29, 3) := by decide +kernel
theorem dX1_init_40 : decode cX1_init 40 = .ok (.aload_n 0, 1) := by decide +kernel
theorem dX1_init_41 : decode cX1_init 41 = .ok (.iconst 4, 1) := by decide +kernel
theorem dX1_init_42 : decode cX1_init 42 = .ok (.newarray .long, 2) := by decide +kernel
theorem dX1_init_44 : decode cX1_init 44 = .ok (.putfield 32, 3) := by decide +kernel
theorem dX1_init_47 : decode cX1_init 47 = .ok (.aload_n 0, 1) := by decide +kernel
theorem dX1_init_48 : decode cX1_init 48 = .ok (.lconst 0, 1) := by decide +kernel
theorem dX1_init_49 : decode cX1_init 49 = .ok (.putfield 35, 3) := by decide +kernel
theorem dX1_init_52 : decode cX1_init 52 = .ok (.aload_n 0, 1) := by decide +kernel
theorem dX1_init_53 : decode cX1_init 53 = .ok (.aload_n 1, 1) := by decide +kernel
theorem dX1_init_54 : decode cX1_init 54 = .ok (.putfield 39, 3) := by decide +kernel
theorem dX1_init_57 : decode cX1_init 57 = .ok (.aload_n 0, 1) := by decide +kernel
theorem dX1_init_58 : decode cX1_init 58 = .ok (.aload_n 2, 1) := by decide +kernel
theorem dX1_init_59 : decode cX1_init 59 = .ok (.putfield 43, 3) := by decide +kernel
theorem dX1_init_62 : decode cX1_init 62 = .ok (.aload_n 0, 1) := by decide +kernel
theorem dX1_init_63 : decode cX1_init 63 = .ok (.aload_n 3, 1) := by decide +kernel
theorem dX1_init_64 : decode cX1_init 64 = .ok (.putfield 47, 3) := by decide +kernel
theorem dX1_init_67 : decode cX1_init 67 = .ok (.aload_n 0, 1) := by decide +kernel
theorem dX1_init_68 : decode cX1_init 68 = .ok (.aload 4, 2) := by decide +kernel
theorem dX1_init_70 : decode cX1_init 70 = .ok (.putfield 51, 3) := by decide +kernel
theorem dX1_init_73 : decode cX1_init 73 = .ok (.new 15, 3) := by decide +kernel
theorem dX1_init_76 : decode cX1_init 76 = .ok (.dup, 1) := by decide +kernel
theorem dX1_init_77 : decode cX1_init 77 = .ok (.invokespecial 55, 3) := by decide +kernel
theorem dX1_init_80 : decode cX1_init 80 = .ok (.astore 5, 2) := by decide +kernel
theorem dX1_init_82 : decode cX1_init 82 = .ok (.iconst 0, 1) := by decide +kernel
theorem dX1_init_83 : decode cX1_init 83 = .ok (.istore 6, 2) := by decide +kernel
theorem dX1_init_85 : decode cX1_init 85 = .ok (.iload 6, 2) := by decide +kernel
theorem dX1_init_87 : decode cX1_init 87 = .ok (.bipush 10, 2) := by decide +kernel
theorem dX1_init_89 : decode cX1_init 89 = .ok (.if_icmp .gt 18, 3) := by decide +kernel
theorem dX1_init_92 : decode cX1_init 92 = .ok (.aload_n 0, 1) := by decide +kernel
theorem dX1_init_93 : decode cX1_init 93 = .ok (.getfield 17, 3) := by decide +kernel
theorem dX1_init_96 : decode cX1_init 96 = .ok (.iload 6, 2) := by decide +kernel
theorem dX1_init_98 : decode cX1_init 98 = .ok (.aload 5, 2) := by decide +kernel
theorem dX1_init_100 : decode cX1_init 100 = .ok (.aastore, 1) := by decide +kernel
theorem dX1_init_101 : decode cX1_init 101 = .ok (.iinc 6 1, 3) := by decide +kernel
theorem dX1_init_104 : decode cX1_init 104 = .ok (.goto (-19), 3) := by decide +kernel
theorem dX1_init_107 : decode cX1_init 107 = .ok (.return_, 1) := by decide +kernel
theorem dX1_begin_0 : decode cX1_begin 0 = .ok (.aload_n 0, 1) := by decide +kernel
theorem dX1_begin_1 : decode cX1_begin 1 = .ok (.getfield 17, 3) := by decide +kernel
theorem dX1_begin_4 : decode cX1_begin 4 = .ok (.iconst 0, 1) := by decide +kernel
theorem dX1_begin_5 : decode cX1_begin 5 = .ok (.aload_n 1, 1) := by decide +kernel
theorem dX1_begin_6 : decode cX1_begin 6 = .ok (.aastore, 1) := by decide +kernel
theorem dX1_begin_7 : decode cX1_begin 7 = .ok (.aload_n 0, 1) := by decide +kernel
theorem dX1_begin_8 : decode cX1_begin 8 = .ok (.iconst 0, 1) := by decide +kernel
theorem dX1_begin_9 : decode cX1_begin 9 = .ok (.putfield 25, 3) := by decide +kernel
theorem dX1_begin_12 : decode cX1_begin 12 = .ok (.return_, 1) := by decide +kernel
theorem dX1_link_0 : decode cX1_link 0 = .ok (.aload_n 0, 1) := by decide +kernel
theorem dX1_link_1 : decode cX1_link 1 = .ok (.getfield 25, 3) := by decide +kernel
theorem dX1_link_4 : decode cX1_link 4 = .ok (.bipush 10, 2) := by decide +kernel
theorem dX1_link_6 : decode cX1_link 6 = .ok (.if_icmp .ge 23, 3) := by decide +kernel
theorem dX1_link_9 : decode cX1_link 9 = .ok (.aload_n 0, 1) := by decide +kernel
theorem dX1_link_10 : decode cX1_link 10 = .ok (.getfield 47, 3) := by decide +kernel
theorem dX1_link_13 : decode cX1_link 13 = .ok (.aload_n 0, 1) := by decide +kernel
theorem dX1_link_14 : decode cX1_link 14 = .ok (.getfield 17, 3) := by decide +kernel
theorem dX1_link_17 : decode cX1_link 17 = .ok (.aload_n 0, 1) := by decide +kernel
theorem dX1_link_18 : decode cX1_link 18 = .ok (.getfield 25, 3) := by decide +kernel
theorem dX1_link_21 : decode cX1_link 21 = .ok (.aaload, 1) := by decide +kernel
theorem dX1_link_22 : decode cX1_link 22 = .ok (.aload_n 1, 1) := by decide +kernel
theorem dX1_link_23 : decode cX1_link 23 = .ok (.invokevirtual 56, 3) := by decide +kernel
theorem dX1_link_26 : decode cX1_link 26 = .ok (.ifCond .ne 5, 3) := by decide +kernel
theorem dX1_link_29 : decode cX1_link 29 = .ok (.iconst 0, 1) := by decide +kernel
theorem dX1_link_30 : decode cX1_link 30 = .ok (.ireturn, 1) := by decide +kernel
theorem dX1_link_31 : decode cX1_link 31 = .ok (.aload_n 0, 1) := by decide +kernel
theorem dX1_link_32 : decode cX1_link 32 = .ok (.getfield 47, 3) := by decide +kernel
theorem dX1_link_35 : decode cX1_link 35 = .ok (.getfield 62, 3) := by decide +kernel
theorem dX1_link_38 : decode cX1_link 38 = .ok (.iconst 0, 1) := by decide +kernel
theorem dX1_link_39 : decode cX1_link 39 = .ok (.aload_n 0, 1) := by decide +kernel
theorem dX1_link_40 : decode cX1_link 40 = .ok (.getfield 21, 3) := by decide +kernel
theorem dX1_link_43 : decode cX1_link 43 = .ok (.aload_n 0, 1) := by decide +kernel
theorem dX1_link_44 : decode cX1_link 44 = .ok (.getfield 25, 3) := by decide +kernel
theorem dX1_link_47 : decode cX1_link 47 = .ok (.iconst 4, 1) := by decide +kernel
theorem dX1_link_48 : decode cX1_link 48 = .ok (.imul, 1) := by decide +kernel
theorem dX1_link_49 : decode cX1_link 49 = .ok (.iconst 4, 1) := by decide +kernel
theorem dX1_link_50 : decode cX1_link 50 = .ok (.invokestatic 63, 3) := by decide +kernel
theorem dX1_link_53 : decode cX1_link 53 = .ok (.aload_n 0, 1) := by decide +kernel
theorem dX1_link_54 : decode cX1_link 54 = .ok (.dup, 1) := by decide +kernel
theorem dX1_link_55 : decode cX1_link 55 = .ok (.getfield 25, 3) := by decide +kernel
theorem dX1_link_58 : decode cX1_link 58 = .ok (.iconst 1, 1) := by decide +kernel
theorem dX1_link_59 : decode cX1_link 59 = .ok (.iadd, 1) := by decide +kernel
theorem dX1_link_60 : decode cX1_link 60 = .ok (.putfield 25, 3) := by decide +kernel
theorem dX1_link_63 : decode cX1_link 63 = .ok (.aload_n 0, 1) := by decide +kernel
theorem dX1_link_64 : decode cX1_link 64 = .ok (.getfield 17, 3) := by decide +kernel
theorem dX1_link_67 : decode cX1_link 67 = .ok (.aload_n 0, 1) := by decide +kernel
theorem dX1_link_68 : decode cX1_link 68 = .ok (.getfield 25, 3) := by decide +kernel
theorem dX1_link_71 : decode cX1_link 71 = .ok (.aload_n 1, 1) := by decide +kernel
theorem dX1_link_72 : decode cX1_link 72 = .ok (.getfield 69, 3) := by decide +kernel
theorem dX1_link_75 : decode cX1_link 75 = .ok (.aload_n 0, 1) := by decide +kernel
theorem dX1_link_76 : decode cX1_link 76 = .ok (.getfield 47, 3) := by decide +kernel
theorem dX1_link_79 : decode cX1_link 79 = .ok (.getfield 74, 3) := by decide +kernel
theorem dX1_link_82 : decode cX1_link 82 = .ok (.aaload, 1) := by decide +kernel
theorem dX1_link_83 : decode cX1_link 83 = .ok (.aastore, 1) := by decide +kernel
theorem dX1_link_84 : decode cX1_link 84 = .ok (.iconst 1, 1) := by decide +kernel
theorem dX1_link_85 : decode cX1_link 85 = .ok (.ireturn, 1) := by decide +kernel
theorem dX1_perform_0 : decode cX1_perform 0 = .ok (.aload_n 0, 1) := by decide +kernel
theorem dX1_perform_1 : decode cX1_perform 1 = .ok (.invokevirtual 77, 3) := by decide +kernel
theorem dX1_perform_4 : decode cX1_perform 4 = .ok (.ifCond .eq 30, 3) := by decide +kernel
theorem dX1_perform_7 : decode cX1_perform 7 = .ok (.aload_n 0, 1) := by decide +kernel
theorem dX1_perform_8 : decode cX1_perform 8 = .ok (.invokevirtual 81, 3) := by decide +kernel
theorem dX1_perform_11 : decode cX1_perform 11 = .ok (.ifCond .eq 23, 3) := by decide +kernel
theorem dX1_perform_14 : decode cX1_perform 14 = .ok (.aload_n 0, 1) := by decide +kernel
theorem dX1_perform_15 : decode cX1_perform 15 = .ok (.aload_n 1, 1) := by decide +kernel
theorem dX1_perform_16 : decode cX1_perform 16 = .ok (.iload_n 2, 1) := by decide +kernel
theorem dX1_perform_17 : decode cX1_perform 17 = .ok (.invokevirtual 84, 3) := by decide +kernel
theorem dX1_perform_20 : decode cX1_perform 20 = .ok (.ifCond .eq 14, 3) := by decide +kernel
theorem dX1_perform_23 : decode cX1_perform 23 = .ok (.aload_n 0, 1) := by decide +kernel
theorem dX1_perform_24 : decode cX1_perform 24 = .ok (.invokevirtual 88, 3) := by decide +kernel
theorem dX1_perform_27 : decode cX1_perform 27 = .ok (.ifCond .eq 7, 3) := by decide +kernel
theorem dX1_perform_30 : decode cX1_perform 30 = .ok (.iconst 1, 1) := by decide +kernel
theorem dX1_perform_31 : decode cX1_perform 31 = .ok (.goto 4, 3) := by decide +kernel
theorem dX1_perform_34 : decode cX1_perform 34 = .ok (.iconst 0, 1) := by decide +kernel
theorem dX1_perform_35 : decode cX1_perform 35 = .ok (.istore_n 3, 1) := by decide +kernel
theorem dX1_perform_36 : decode cX1_perform 36 = .ok (.iload_n 3, 1) := by decide +kernel
theorem dX1_perform_37 : decode cX1_perform 37 = .ok (.ifCond .eq 30, 3) := by decide +kernel
theorem dX1_perform_40 : decode cX1_perform 40 = .ok (.aload_n 0, 1) := by decide +kernel
theorem dX1_perform_41 : decode cX1_perform 41 = .ok (.getfield 51, 3) := by decide +kernel
theorem dX1_perform_44 : decode cX1_perform 44 = .ok (.aload_n 0, 1) := by decide +kernel
theorem dX1_perform_45 : decode cX1_perform 45 = .ok (.getfield 35, 3) := by decide +kernel
theorem dX1_perform_48 : decode cX1_perform 48 = .ok (.putfield 91, 3) := by decide +kernel
theorem dX1_perform_51 : decode cX1_perform 51 = .ok (.aload_n 0, 1) := by decide +kernel
theorem dX1_perform_52 : decode cX1_perform 52 = .ok (.getfield 51, 3) := by decide +kernel
theorem dX1_perform_55 : decode cX1_perform 55 = .ok (.dup, 1) := by decide +kernel
theorem dX1_perform_56 : decode cX1_perform 56 = .ok (.getfield 96, 3) := by decide +kernel
theorem dX1_perform_59 : decode cX1_perform 59 = .ok (.iconst 1, 1) := by decide +kernel
theorem dX1_perform_60 : decode cX1_perform 60 = .ok (.iadd, 1) := by decide +kernel
theorem dX1_perform_61 : decode cX1_perform 61 = .ok (.putfield 96, 3) := by decide +kernel
theorem dX1_perform_64 : decode cX1_perform 64 = .ok (.goto 16, 3) := by decide +kernel
theorem dX1_perform_67 : decode cX1_perform 67 = .ok (.aload_n 0, 1) := by decide +kernel
theorem dX1_perform_68 : decode cX1_perform 68 = .ok (.getfield 51, 3) := by decide +kernel
theorem dX1_perform_71 : decode cX1_perform 71 = .ok (.dup, 1) := by decide +kernel
theorem dX1_perform_72 : decode cX1_perform 72 = .ok (.getfield 99, 3) := by decide +kernel
theorem dX1_perform_75 : decode cX1_perform 75 = .ok (.iconst 1, 1) := by decide +kernel
theorem dX1_perform_76 : decode cX1_perform 76 = .ok (.iadd, 1) := by decide +kernel
theorem dX1_perform_77 : decode cX1_perform 77 = .ok (.putfield 99, 3) := by decide +kernel
theorem dX1_perform_80 : decode cX1_perform 80 = .ok (.iload_n 3, 1) := by decide +kernel
theorem dX1_perform_81 : decode cX1_perform 81 = .ok (.ireturn, 1) := by decide +kernel
theorem dX1_takeHand_0 : decode cX1_takeHand 0 = .ok (.aload_n 0, 1) := by decide +kernel
theorem dX1_takeHand_1 : decode cX1_takeHand 1 = .ok (.getfield 17, 3) := by decide +kernel
theorem dX1_takeHand_4 : decode cX1_takeHand 4 = .ok (.iconst 0, 1) := by decide +kernel
theorem dX1_takeHand_5 : decode cX1_takeHand 5 = .ok (.aaload, 1) := by decide +kernel
theorem dX1_takeHand_6 : decode cX1_takeHand 6 = .ok (.astore_n 1, 1) := by decide +kernel
theorem dX1_takeHand_7 : decode cX1_takeHand 7 = .ok (.iconst 0, 1) := by decide +kernel
theorem dX1_takeHand_8 : decode cX1_takeHand 8 = .ok (.istore_n 2, 1) := by decide +kernel
theorem dX1_takeHand_9 : decode cX1_takeHand 9 = .ok (.iload_n 2, 1) := by decide +kernel
theorem dX1_takeHand_10 : decode cX1_takeHand 10 = .ok (.aload_n 1, 1) := by decide +kernel
theorem dX1_takeHand_11 : decode cX1_takeHand 11 = .ok (.getfield 102, 3) := by decide +kernel
theorem dX1_takeHand_14 : decode cX1_takeHand 14 = .ok (.if_icmp .ge 50, 3) := by decide +kernel
theorem dX1_takeHand_17 : decode cX1_takeHand 17 = .ok (.aload_n 1, 1) := by decide +kernel
theorem dX1_takeHand_18 : decode cX1_takeHand 18 = .ok (.getfield 105, 3) := by decide +kernel
theorem dX1_takeHand_21 : decode cX1_takeHand 21 = .ok (.iload_n 2, 1) := by decide +kernel
theorem dX1_takeHand_22 : decode cX1_takeHand 22 = .ok (.iaload, 1) := by decide +kernel
theorem dX1_takeHand_23 : decode cX1_takeHand 23 = .ok (.aload_n 0, 1) := by decide +kernel
theorem dX1_takeHand_24 : decode cX1_takeHand 24 = .ok (.getfield 9, 3) := by decide +kernel
theorem dX1_takeHand_27 : decode cX1_takeHand 27 = .ok (.iload_n 2, 1) := by decide +kernel
theorem dX1_takeHand_28 : decode cX1_takeHand 28 = .ok (.laload, 1) := by decide +kernel
theorem dX1_takeHand_29 : decode cX1_takeHand 29 = .ok (.invokestatic 108, 3) := by decide +kernel
theorem dX1_takeHand_32 : decode cX1_takeHand 32 = .ok (.ifCond .ne 14, 3) := by decide +kernel
theorem dX1_takeHand_35 : decode cX1_takeHand 35 = .ok (.aload_n 0, 1) := by decide +kernel
theorem dX1_takeHand_36 : decode cX1_takeHand 36 = .ok (.getfield 51, 3) := by decide +kernel
theorem dX1_takeHand_39 : decode cX1_takeHand 39 = .ok (.iconst 0, 1) := by decide +kernel
theorem dX1_takeHand_40 : decode cX1_takeHand 40 = .ok (.iconst (-1), 1) := by decide +kernel
theorem dX1_takeHand_41 : decode cX1_takeHand 41 = .ok (.invokevirtual 112, 3) := by decide +kernel
theorem dX1_takeHand_44 : decode cX1_takeHand 44 = .ok (.iconst 0, 1) := by decide +kernel
theorem dX1_takeHand_45 : decode cX1_takeHand 45 = .ok (.ireturn, 1) := by decide +kernel
theorem dX1_takeHand_46 : decode cX1_takeHand 46 = .ok (.aload_n 0, 1) := by decide +kernel
theorem dX1_takeHand_47 : decode cX1_takeHand 47 = .ok (.getfield 29, 3) := by decide +kernel
theorem dX1_takeHand_50 : decode cX1_takeHand 50 = .ok (.iload_n 2, 1) := by decide +kernel
theorem dX1_takeHand_51 : decode cX1_takeHand 51 = .ok (.aload_n 0, 1) := by decide +kernel
theorem dX1_takeHand_52 : decode cX1_takeHand 52 = .ok (.getfield 9, 3) := by decide +kernel
theorem dX1_takeHand_55 : decode cX1_takeHand 55 = .ok (.iload_n 2, 1) := by decide +kernel
theorem dX1_takeHand_56 : decode cX1_takeHand 56 = .ok (.laload, 1) := by decide +kernel
theorem dX1_takeHand_57 : decode cX1_takeHand 57 = .ok (.lastore, 1) := by decide +kernel
theorem dX1_takeHand_58 : decode cX1_takeHand 58 = .ok (.iinc 2 1, 3) := by decide +kernel
theorem dX1_takeHand_61 : decode cX1_takeHand 61 = .ok (.goto (-52), 3) := by decide +kernel
theorem dX1_takeHand_64 : decode cX1_takeHand 64 = .ok (.iconst 1, 1) := by decide +kernel
theorem dX1_takeHand_65 : decode cX1_takeHand 65 = .ok (.ireturn, 1) := by decide +kernel
theorem dX1_passIn_0 : decode cX1_passIn 0 = .ok (.iconst 0, 1) := by decide +kernel
theorem dX1_passIn_1 : decode cX1_passIn 1 = .ok (.istore_n 1, 1) := by decide +kernel
theorem dX1_passIn_2 : decode cX1_passIn 2 = .ok (.iload_n 1, 1) := by decide +kernel
theorem dX1_passIn_3 : decode cX1_passIn 3 = .ok (.aload_n 0, 1) := by decide +kernel
theorem dX1_passIn_4 : decode cX1_passIn 4 = .ok (.getfield 25, 3) := by decide +kernel
theorem dX1_passIn_7 : decode cX1_passIn 7 = .ok (.if_icmp .ge 52, 3) := by decide +kernel
theorem dX1_passIn_10 : decode cX1_passIn 10 = .ok (.aload_n 0, 1) := by decide +kernel
theorem dX1_passIn_11 : decode cX1_passIn 11 = .ok (.iload_n 1, 1) := by decide +kernel
theorem dX1_passIn_12 : decode cX1_passIn 12 = .ok (.invokevirtual 116, 3) := by decide +kernel
theorem dX1_passIn_15 : decode cX1_passIn 15 = .ok (.ifCond .ne 20, 3) := by decide +kernel
theorem dX1_passIn_18 : decode cX1_passIn 18 = .ok (.aload_n 0, 1) := by decide +kernel
theorem dX1_passIn_19 : decode cX1_passIn 19 = .ok (.getfield 51, 3) := by decide +kernel
theorem dX1_passIn_22 : decode cX1_passIn 22 = .ok (.iconst 1, 1) := by decide +kernel
theorem dX1_passIn_23 : decode cX1_passIn 23 = .ok (.aload_n 0, 1) := by decide +kernel
theorem dX1_passIn_24 : decode cX1_passIn 24 = .ok (.getfield 39, 3) := by decide +kernel
theorem dX1_passIn_27 : decode cX1_passIn 27 = .ok (.getfield 120, 3) := by decide +kernel
theorem dX1_passIn_30 : decode cX1_passIn 30 = .ok (.invokevirtual 112, 3) := by decide +kernel
theorem dX1_passIn_33 : decode cX1_passIn 33 = .ok (.iconst 0, 1) := by decide +kernel
theorem dX1_passIn_34 : decode cX1_passIn 34 = .ok (.ireturn, 1) := by decide +kernel
theorem dX1_passIn_35 : decode cX1_passIn 35 = .ok (.aload_n 0, 1) := by decide +kernel
theorem dX1_passIn_36 : decode cX1_passIn 36 = .ok (.getfield 29, 3) := by decide +kernel
theorem dX1_passIn_39 : decode cX1_passIn 39 = .ok (.astore_n 2, 1) := by decide +kernel
theorem dX1_passIn_40 : decode cX1_passIn 40 = .ok (.aload_n 0, 1) := by decide +kernel
theorem dX1_passIn_41 : decode cX1_passIn 41 = .ok (.aload_n 0, 1) := by decide +kernel
theorem dX1_passIn_42 : decode cX1_passIn 42 = .ok (.getfield 32, 3) := by decide +kernel
theorem dX1_passIn_45 : decode cX1_passIn 45 = .ok (.putfield 29, 3) := by decide +kernel
theorem dX1_passIn_48 : decode cX1_passIn 48 = .ok (.aload_n 0, 1) := by decide +kernel
theorem dX1_passIn_49 : decode cX1_passIn 49 = .ok (.aload_n 2, 1) := by decide +kernel
theorem dX1_passIn_50 : decode cX1_passIn 50 = .ok (.putfield 32, 3) := by decide +kernel
theorem dX1_passIn_53 : decode cX1_passIn 53 = .ok (.iinc 1 1, 3) := by decide +kernel
theorem dX1_passIn_56 : decode cX1_passIn 56 = .ok (.goto (-54), 3) := by decide +kernel
theorem dX1_passIn_59 : decode cX1_passIn 59 = .ok (.iconst 1, 1) := by decide +kernel
theorem dX1_passIn_60 : decode cX1_passIn 60 = .ok (.ireturn, 1) := by decide +kernel
theorem dX1_passTo_0 : decode cX1_passTo 0 = .ok (.aload_n 0, 1) := by decide +kernel
theorem dX1_passTo_1 : decode cX1_passTo 1 = .ok (.getfield 17, 3) := by decide +kernel
theorem dX1_passTo_4 : decode cX1_passTo 4 = .ok (.iload_n 1, 1) := by decide +kernel
theorem dX1_passTo_5 : decode cX1_passTo 5 = .ok (.aaload, 1) := by decide +kernel
theorem dX1_passTo_6 : decode cX1_passTo 6 = .ok (.astore_n 2, 1) := by decide +kernel
theorem dX1_passTo_7 : decode cX1_passTo 7 = .ok (.aload_n 0, 1) := by decide +kernel
theorem dX1_passTo_8 : decode cX1_passTo 8 = .ok (.getfield 17, 3) := by decide +kernel
theorem dX1_passTo_11 : decode cX1_passTo 11 = .ok (.iload_n 1, 1) := by decide +kernel
theorem dX1_passTo_12 : decode cX1_passTo 12 = .ok (.iconst 1, 1) := by decide +kernel
theorem dX1_passTo_13 : decode cX1_passTo 13 = .ok (.iadd, 1) := by decide +kernel
theorem dX1_passTo_14 : decode cX1_passTo 14 = .ok (.aaload, 1) := by decide +kernel
theorem dX1_passTo_15 : decode cX1_passTo 15 = .ok (.astore_n 3, 1) := by decide +kernel
theorem dX1_passTo_16 : decode cX1_passTo 16 = .ok (.iconst 0, 1) := by decide +kernel
theorem dX1_passTo_17 : decode cX1_passTo 17 = .ok (.istore 4, 2) := by decide +kernel
theorem dX1_passTo_19 : decode cX1_passTo 19 = .ok (.iload 4, 2) := by decide +kernel
theorem dX1_passTo_21 : decode cX1_passTo 21 = .ok (.aload_n 3, 1) := by decide +kernel
theorem dX1_passTo_22 : decode cX1_passTo 22 = .ok (.getfield 102, 3) := by decide +kernel
theorem dX1_passTo_25 : decode cX1_passTo 25 = .ok (.if_icmp .ge 104, 3) := by decide +kernel
theorem dX1_passTo_28 : decode cX1_passTo 28 = .ok (.aload_n 0, 1) := by decide +kernel
theorem dX1_passTo_29 : decode cX1_passTo 29 = .ok (.getfield 21, 3) := by decide +kernel
theorem dX1_passTo_32 : decode cX1_passTo 32 = .ok (.iload_n 1, 1) := by decide +kernel
theorem dX1_passTo_33 : decode cX1_passTo 33 = .ok (.iconst 4, 1) := by decide +kernel
theorem dX1_passTo_34 : decode cX1_passTo 34 = .ok (.imul, 1) := by decide +kernel
theorem dX1_passTo_35 : decode cX1_passTo 35 = .ok (.iload 4, 2) := by decide +kernel
theorem dX1_passTo_37 : decode cX1_passTo 37 = .ok (.iadd, 1) := by decide +kernel
theorem dX1_passTo_38 : decode cX1_passTo 38 = .ok (.iaload, 1) := by decide +kernel
theorem dX1_passTo_39 : decode cX1_passTo 39 = .ok (.istore 5, 2) := by decide +kernel
theorem dX1_passTo_41 : decode cX1_passTo 41 = .ok (.iload 5, 2) := by decide +kernel
theorem dX1_passTo_43 : decode cX1_passTo 43 = .ok (.bipush 9, 2) := by decide +kernel
theorem dX1_passTo_45 : decode cX1_passTo 45 = .ok (.if_icmp .ne 28, 3) := by decide +kernel
theorem dX1_passTo_48 : decode cX1_passTo 48 = .ok (.aload_n 0, 1) := by decide +kernel
theorem dX1_passTo_49 : decode cX1_passTo 49 = .ok (.getfield 32, 3) := by decide +kernel
theorem dX1_passTo_52 : decode cX1_passTo 52 = .ok (.iload 4, 2) := by decide +kernel
theorem dX1_passTo_54 : decode cX1_passTo 54 = .ok (.aload_n 0, 1) := by decide +kernel
theorem dX1_passTo_55 : decode cX1_passTo 55 = .ok (.getfield 43, 3) := by decide +kernel
theorem dX1_passTo_58 : decode cX1_passTo 58 = .ok (.getfield 125, 3) := by decide +kernel
theorem dX1_passTo_61 : decode cX1_passTo 61 = .ok (.aload_n 3, 1) := by decide +kernel
theorem dX1_passTo_62 : decode cX1_passTo 62 = .ok (.getfield 105, 3) := by decide +kernel
theorem dX1_passTo_65 : decode cX1_passTo 65 = .ok (.iload 4, 2) := by decide +kernel
theorem dX1_passTo_67 : decode cX1_passTo 67 = .ok (.iaload, 1) := by decide +kernel
theorem dX1_passTo_68 : decode cX1_passTo 68 = .ok (.laload, 1) := by decide +kernel
theorem dX1_passTo_69 : decode cX1_passTo 69 = .ok (.lastore, 1) := by decide +kernel
theorem dX1_passTo_70 : decode cX1_passTo 70 = .ok (.goto 53, 3) := by decide +kernel
theorem dX1_passTo_73 : decode cX1_passTo 73 = .ok (.aload_n 0, 1) := by decide +kernel
theorem dX1_passTo_74 : decode cX1_passTo 74 = .ok (.getfield 39, 3) := by decide +kernel
theorem dX1_passTo_77 : decode cX1_passTo 77 = .ok (.aload_n 2, 1) := by decide +kernel
theorem dX1_passTo_78 : decode cX1_passTo 78 = .ok (.getfield 105, 3) := by decide +kernel
theorem dX1_passTo_81 : decode cX1_passTo 81 = .ok (.iload 5, 2) := by decide +kernel
theorem dX1_passTo_83 : decode cX1_passTo 83 = .ok (.iaload, 1) := by decide +kernel
theorem dX1_passTo_84 : decode cX1_passTo 84 = .ok (.aload_n 3, 1) := by decide +kernel
theorem dX1_passTo_85 : decode cX1_passTo 85 = .ok (.getfield 105, 3) := by decide +kernel
theorem dX1_passTo_88 : decode cX1_passTo 88 = .ok (.iload 4, 2) := by decide +kernel
theorem dX1_passTo_90 : decode cX1_passTo 90 = .ok (.iaload, 1) := by decide +kernel
theorem dX1_passTo_91 : decode cX1_passTo 91 = .ok (.aload_n 0, 1) := by decide +kernel
theorem dX1_passTo_92 : decode cX1_passTo 92 = .ok (.getfield 29, 3) := by decide +kernel
theorem dX1_passTo_95 : decode cX1_passTo 95 = .ok (.iload 5, 2) := by decide +kernel
theorem dX1_passTo_97 : decode cX1_passTo 97 = .ok (.laload, 1) := by decide +kernel
theorem dX1_passTo_98 : decode cX1_passTo 98 = .ok (.invokevirtual 130, 3) := by decide +kernel
theorem dX1_passTo_101 : decode cX1_passTo 101 = .ok (.ifCond .eq 20, 3) := by decide +kernel
theorem dX1_passTo_104 : decode cX1_passTo 104 = .ok (.aload_n 0, 1) := by decide +kernel
theorem dX1_passTo_105 : decode cX1_passTo 105 = .ok (.getfield 32, 3) := by decide +kernel
theorem dX1_passTo_108 : decode cX1_passTo 108 = .ok (.iload 4, 2) := by decide +kernel
theorem dX1_passTo_110 : decode cX1_passTo 110 = .ok (.aload_n 0, 1) := by decide +kernel
theorem dX1_passTo_111 : decode cX1_passTo 111 = .ok (.getfield 39, 3) := by decide +kernel
theorem dX1_passTo_114 : decode cX1_passTo 114 = .ok (.getfield 134, 3) := by decide +kernel
theorem dX1_passTo_117 : decode cX1_passTo 117 = .ok (.lastore, 1) := by decide +kernel
theorem dX1_passTo_118 : decode cX1_passTo 118 = .ok (.goto 5, 3) := by decide +kernel
theorem dX1_passTo_121 : decode cX1_passTo 121 = .ok (.iconst 0, 1) := by decide +kernel
theorem dX1_passTo_122 : decode cX1_passTo 122 = .ok (.ireturn, 1) := by decide +kernel
theorem dX1_passTo_123 : decode cX1_passTo 123 = .ok (.iinc 4 1, 3) := by decide +kernel
theorem dX1_passTo_126 : decode cX1_passTo 126 = .ok (.goto (-107), 3) := by decide +kernel
theorem dX1_passTo_129 : decode cX1_passTo 129 = .ok (.iconst 1, 1) := by decide +kernel
theorem dX1_passTo_130 : decode cX1_passTo 130 = .ok (.ireturn, 1) := by decide +kernel
theorem dX1_doWork_0 : decode cX1_doWork 0 = .ok (.aload_n 0, 1) := by decide +kernel
theorem dX1_doWork_1 : decode cX1_doWork 1 = .ok (.getfield 17, 3) := by decide +kernel
theorem dX1_doWork_4 : decode cX1_doWork 4 = .ok (.aload_n 0, 1) := by decide +kernel
theorem dX1_doWork_5 : decode cX1_doWork 5 = .ok (.getfield 25, 3) := by decide +kernel
theorem dX1_doWork_8 : decode cX1_doWork 8 = .ok (.aaload, 1) := by decide +kernel
theorem dX1_doWork_9 : decode cX1_doWork 9 = .ok (.astore_n 3, 1) := by decide +kernel
theorem dX1_doWork_10 : decode cX1_doWork 10 = .ok (.aload_n 3, 1) := by decide +kernel
theorem dX1_doWork_11 : decode cX1_doWork 11 = .ok (.getfield 135, 3) := by decide +kernel
theorem dX1_doWork_14 : decode cX1_doWork 14 = .ok (.lookupswitch 61 #[(1, 26), (2, 44)], 26) := by decide +kernel
theorem dX1_doWork_40 : decode cX1_doWork 40 = .ok (.aload_n 0, 1) := by decide +kernel
theorem dX1_doWork_41 : decode cX1_doWork 41 = .ok (.aload_n 3, 1) := by decide +kernel
theorem dX1_doWork_42 : decode cX1_doWork 42 = .ok (.aload_n 1, 1) := by decide +kernel
theorem dX1_doWork_43 : decode cX1_doWork 43 = .ok (.iload_n 2, 1) := by decide +kernel
theorem dX1_doWork_44 : decode cX1_doWork 44 = .ok (.aload_n 3, 1) := by decide +kernel
theorem dX1_doWork_45 : decode cX1_doWork 45 = .ok (.getfield 138, 3) := by decide +kernel
theorem dX1_doWork_48 : decode cX1_doWork 48 = .ok (.iadd, 1) := by decide +kernel
theorem dX1_doWork_49 : decode cX1_doWork 49 = .ok (.laload, 1) := by decide +kernel
theorem dX1_doWork_50 : decode cX1_doWork 50 = .ok (.invokevirtual 141, 3) := by decide +kernel
theorem dX1_doWork_53 : decode cX1_doWork 53 = .ok (.istore 4, 2) := by decide +kernel
theorem dX1_doWork_55 : decode cX1_doWork 55 = .ok (.goto 57, 3) := by decide +kernel
theorem dX1_doWork_58 : decode cX1_doWork 58 = .ok (.aload_n 0, 1) := by decide +kernel
theorem dX1_doWork_59 : decode cX1_doWork 59 = .ok (.aload_n 3, 1) := by decide +kernel
theorem dX1_doWork_60 : decode cX1_doWork 60 = .ok (.aload_n 1, 1) := by decide +kernel
theorem dX1_doWork_61 : decode cX1_doWork 61 = .ok (.iload_n 2, 1) := by decide +kernel
theorem dX1_doWork_62 : decode cX1_doWork 62 = .ok (.aload_n 3, 1) := by decide +kernel
theorem dX1_doWork_63 : decode cX1_doWork 63 = .ok (.getfield 138, 3) := by decide +kernel
theorem dX1_doWork_66 : decode cX1_doWork 66 = .ok (.iadd, 1) := by decide +kernel
theorem dX1_doWork_67 : decode cX1_doWork 67 = .ok (.invokevirtual 145, 3) := by decide +kernel
theorem dX1_doWork_70 : decode cX1_doWork 70 = .ok (.istore 4, 2) := by decide +kernel
theorem dX1_doWork_72 : decode cX1_doWork 72 = .ok (.goto 40, 3) := by decide +kernel
theorem dX1_doWork_75 : decode cX1_doWork 75 = .ok (.aload_n 0, 1) := by decide +kernel
theorem dX1_doWork_76 : decode cX1_doWork 76 = .ok (.aload_n 3, 1) := by decide +kernel
theorem dX1_doWork_77 : decode cX1_doWork 77 = .ok (.invokevirtual 149, 3) := by decide +kernel
theorem dX1_doWork_80 : decode cX1_doWork 80 = .ok (.ifCond .eq 29, 3) := by decide +kernel
theorem dX1_doWork_83 : decode cX1_doWork 83 = .ok (.aload_n 0, 1) := by decide +kernel
theorem dX1_doWork_84 : decode cX1_doWork 84 = .ok (.aload_n 3, 1) := by decide +kernel
theorem dX1_doWork_85 : decode cX1_doWork 85 = .ok (.aload_n 1, 1) := by decide +kernel
theorem dX1_doWork_86 : decode cX1_doWork 86 = .ok (.iload_n 2, 1) := by decide +kernel
theorem dX1_doWork_87 : decode cX1_doWork 87 = .ok (.invokevirtual 153, 3) := by decide +kernel
theorem dX1_doWork_90 : decode cX1_doWork 90 = .ok (.ifCond .eq 19, 3) := by decide +kernel
theorem dX1_doWork_93 : decode cX1_doWork 93 = .ok (.aload_n 0, 1) := by decide +kernel
theorem dX1_doWork_94 : decode cX1_doWork 94 = .ok (.aload_n 3, 1) := by decide +kernel
theorem dX1_doWork_95 : decode cX1_doWork 95 = .ok (.aload_n 0, 1) := by decide +kernel
theorem dX1_doWork_96 : decode cX1_doWork 96 = .ok (.getfield 35, 3) := by decide +kernel
theorem dX1_doWork_99 : decode cX1_doWork 99 = .ok (.invokevirtual 141, 3) := by decide +kernel
theorem dX1_doWork_102 : decode cX1_doWork 102 = .ok (.ifCond .eq 7, 3) := by decide +kernel
theorem dX1_doWork_105 : decode cX1_doWork 105 = .ok (.iconst 1, 1) := by decide +kernel
theorem dX1_doWork_106 : decode cX1_doWork 106 = .ok (.goto 4, 3) := by decide +kernel
theorem dX1_doWork_109 : decode cX1_doWork 109 = .ok (.iconst 0, 1) := by decide +kernel
theorem dX1_doWork_110 : decode cX1_doWork 110 = .ok (.istore 4, 2) := by decide +kernel
theorem dX1_doWork_112 : decode cX1_doWork 112 = .ok (.iload 4, 2) := by decide +kernel
theorem dX1_doWork_114 : decode cX1_doWork 114 = .ok (.ifCond .ne 12, 3) := by decide +kernel
theorem dX1_doWork_117 : decode cX1_doWork 117 = .ok (.aload_n 0, 1) := by decide +kernel
theorem dX1_doWork_118 : decode cX1_doWork 118 = .ok (.getfield 51, 3) := by decide +kernel
theorem dX1_doWork_121 : decode cX1_doWork 121 = .ok (.iconst 2, 1) := by decide +kernel
theorem dX1_doWork_122 : decode cX1_doWork 122 = .ok (.iconst (-1), 1) := by decide +kernel
theorem dX1_doWork_123 : decode cX1_doWork 123 = .ok (.invokevirtual 112, 3) := by decide +kernel
theorem dX1_doWork_126 : decode cX1_doWork 126 = .ok (.iload 4, 2) := by decide +kernel
theorem dX1_doWork_128 : decode cX1_doWork 128 = .ok (.ireturn, 1) := by decide +kernel
theorem dX1_giveIfOf_0 : decode cX1_giveIfOf 0 = .ok (.aload_n 0, 1) := by decide +kernel
theorem dX1_giveIfOf_1 : decode cX1_giveIfOf 1 = .ok (.lload_n 2, 1) := by decide +kernel
theorem dX1_giveIfOf_2 : decode cX1_giveIfOf 2 = .ok (.putfield 35, 3) := by decide +kernel
theorem dX1_giveIfOf_5 : decode cX1_giveIfOf 5 = .ok (.aload_n 1, 1) := by decide +kernel
theorem dX1_giveIfOf_6 : decode cX1_giveIfOf 6 = .ok (.getfield 156, 3) := by decide +kernel
theorem dX1_giveIfOf_9 : decode cX1_giveIfOf 9 = .ok (.lload_n 2, 1) := by decide +kernel
theorem dX1_giveIfOf_10 : decode cX1_giveIfOf 10 = .ok (.invokestatic 108, 3) := by decide +kernel
theorem dX1_giveIfOf_13 : decode cX1_giveIfOf 13 = .ok (.ireturn, 1) := by decide +kernel
theorem dX1_addUp_0 : decode cX1_addUp 0 = .ok (.aload_n 0, 1) := by decide +kernel
theorem dX1_addUp_1 : decode cX1_addUp 1 = .ok (.aload_n 1, 1) := by decide +kernel
theorem dX1_addUp_2 : decode cX1_addUp 2 = .ok (.getfield 158, 3) := by decide +kernel
theorem dX1_addUp_5 : decode cX1_addUp 5 = .ok (.i2l, 1) := by decide +kernel
theorem dX1_addUp_6 : decode cX1_addUp 6 = .ok (.putfield 35, 3) := by decide +kernel
theorem dX1_addUp_9 : decode cX1_addUp 9 = .ok (.iconst 0, 1) := by decide +kernel
theorem dX1_addUp_10 : decode cX1_addUp 10 = .ok (.istore_n 2, 1) := by decide +kernel
theorem dX1_addUp_11 : decode cX1_addUp 11 = .ok (.iload_n 2, 1) := by decide +kernel
theorem dX1_addUp_12 : decode cX1_addUp 12 = .ok (.aload_n 1, 1) := by decide +kernel
theorem dX1_addUp_13 : decode cX1_addUp 13 = .ok (.getfield 102, 3) := by decide +kernel
theorem dX1_addUp_16 : decode cX1_addUp 16 = .ok (.if_icmp .ge 51, 3) := by decide +kernel
theorem dX1_addUp_19 : decode cX1_addUp 19 = .ok (.aload_n 0, 1) := by decide +kernel
theorem dX1_addUp_20 : decode cX1_addUp 20 = .ok (.getfield 29, 3) := by decide +kernel
theorem dX1_addUp_23 : decode cX1_addUp 23 = .ok (.iload_n 2, 1) := by decide +kernel
theorem dX1_addUp_24 : decode cX1_addUp 24 = .ok (.laload, 1) := by decide +kernel
theorem dX1_addUp_25 : decode cX1_addUp 25 = .ok (.aload_n 1, 1) := by decide +kernel
theorem dX1_addUp_26 : decode cX1_addUp 26 = .ok (.getfield 161, 3) := by decide +kernel
theorem dX1_addUp_29 : decode cX1_addUp 29 = .ok (.iload_n 2, 1) := by decide +kernel
theorem dX1_addUp_30 : decode cX1_addUp 30 = .ok (.iaload, 1) := by decide +kernel
theorem dX1_addUp_31 : decode cX1_addUp 31 = .ok (.iconst 0, 1) := by decide +kernel
theorem dX1_addUp_32 : decode cX1_addUp 32 = .ok (.invokestatic 164, 3) := by decide +kernel
theorem dX1_addUp_35 : decode cX1_addUp 35 = .ok (.ifCond .eq 24, 3) := by decide +kernel
theorem dX1_addUp_38 : decode cX1_addUp 38 = .ok (.aload_n 0, 1) := by decide +kernel
theorem dX1_addUp_39 : decode cX1_addUp 39 = .ok (.aload_n 0, 1) := by decide +kernel
theorem dX1_addUp_40 : decode cX1_addUp 40 = .ok (.getfield 29, 3) := by decide +kernel
theorem dX1_addUp_43 : decode cX1_addUp 43 = .ok (.iload_n 2, 1) := by decide +kernel
theorem dX1_addUp_44 : decode cX1_addUp 44 = .ok (.laload, 1) := by decide +kernel
theorem dX1_addUp_45 : decode cX1_addUp 45 = .ok (.aload_n 1, 1) := by decide +kernel
theorem dX1_addUp_46 : decode cX1_addUp 46 = .ok (.getfield 161, 3) := by decide +kernel
theorem dX1_addUp_49 : decode cX1_addUp 49 = .ok (.iload_n 2, 1) := by decide +kernel
theorem dX1_addUp_50 : decode cX1_addUp 50 = .ok (.iaload, 1) := by decide +kernel
theorem dX1_addUp_51 : decode cX1_addUp 51 = .ok (.i2l, 1) := by decide +kernel
theorem dX1_addUp_52 : decode cX1_addUp 52 = .ok (.lmul, 1) := by decide +kernel
theorem dX1_addUp_53 : decode cX1_addUp 53 = .ok (.invokevirtual 168, 3) := by decide +kernel
theorem dX1_addUp_56 : decode cX1_addUp 56 = .ok (.ifCond .ne 5, 3) := by decide +kernel
theorem dX1_addUp_59 : decode cX1_addUp 59 = .ok (.iconst 0, 1) := by decide +kernel
theorem dX1_addUp_60 : decode cX1_addUp 60 = .ok (.ireturn, 1) := by decide +kernel
theorem dX1_addUp_61 : decode cX1_addUp 61 = .ok (.iinc 2 1, 3) := by decide +kernel
theorem dX1_addUp_64 : decode cX1_addUp 64 = .ok (.goto (-53), 3) := by decide +kernel
theorem dX1_addUp_67 : decode cX1_addUp 67 = .ok (.iconst 1, 1) := by decide +kernel
theorem dX1_addUp_68 : decode cX1_addUp 68 = .ok (.ireturn, 1) := by decide +kernel
theorem dX1_addField_0 : decode cX1_addField 0 = .ok (.aload_n 1, 1) := by decide +kernel
theorem dX1_addField_1 : decode cX1_addField 1 = .ok (.getfield 138, 3) := by decide +kernel
theorem dX1_addField_4 : decode cX1_addField 4 = .ok (.iconst (-1), 1) := by decide +kernel
theorem dX1_addField_5 : decode cX1_addField 5 = .ok (.if_icmp .eq 18, 3) := by decide +kernel
theorem dX1_addField_8 : decode cX1_addField 8 = .ok (.aload_n 0, 1) := by decide +kernel
theorem dX1_addField_9 : decode cX1_addField 9 = .ok (.aload_n 2, 1) := by decide +kernel
theorem dX1_addField_10 : decode cX1_addField 10 = .ok (.iload_n 3, 1) := by decide +kernel
theorem dX1_addField_11 : decode cX1_addField 11 = .ok (.aload_n 1, 1) := by decide +kernel
theorem dX1_addField_12 : decode cX1_addField 12 = .ok (.getfield 138, 3) := by decide +kernel
theorem dX1_addField_15 : decode cX1_addField 15 = .ok (.iadd, 1) := by decide +kernel
theorem dX1_addField_16 : decode cX1_addField 16 = .ok (.laload, 1) := by decide +kernel
theorem dX1_addField_17 : decode cX1_addField 17 = .ok (.invokevirtual 168, 3) := by decide +kernel
theorem dX1_addField_20 : decode cX1_addField 20 = .ok (.ifCond .eq 7, 3) := by decide +kernel
theorem dX1_addField_23 : decode cX1_addField 23 = .ok (.iconst 1, 1) := by decide +kernel
theorem dX1_addField_24 : decode cX1_addField 24 = .ok (.goto 4, 3) := by decide +kernel
theorem dX1_addField_27 : decode cX1_addField 27 = .ok (.iconst 0, 1) := by decide +kernel
theorem dX1_addField_28 : decode cX1_addField 28 = .ok (.ireturn, 1) := by decide +kernel
theorem dX1_addTo_0 : decode cX1_addTo 0 = .ok (.aload_n 0, 1) := by decide +kernel
theorem dX1_addTo_1 : decode cX1_addTo 1 = .ok (.getfield 35, 3) := by decide +kernel
theorem dX1_addTo_4 : decode cX1_addTo 4 = .ok (.lload_n 1, 1) := by decide +kernel
theorem dX1_addTo_5 : decode cX1_addTo 5 = .ok (.invokestatic 172, 3) := by decide +kernel
theorem dX1_addTo_8 : decode cX1_addTo 8 = .ok (.istore_n 3, 1) := by decide +kernel
theorem dX1_addTo_9 : decode cX1_addTo 9 = .ok (.aload_n 0, 1) := by decide +kernel
theorem dX1_addTo_10 : decode cX1_addTo 10 = .ok (.dup, 1) := by decide +kernel
theorem dX1_addTo_11 : decode cX1_addTo 11 = .ok (.getfield 35, 3) := by decide +kernel
theorem dX1_addTo_14 : decode cX1_addTo 14 = .ok (.lload_n 1, 1) := by decide +kernel
theorem dX1_addTo_15 : decode cX1_addTo 15 = .ok (.ladd, 1) := by decide +kernel
theorem dX1_addTo_16 : decode cX1_addTo 16 = .ok (.putfield 35, 3) := by decide +kernel
theorem dX1_addTo_19 : decode cX1_addTo 19 = .ok (.iload_n 3, 1) := by decide +kernel
theorem dX1_addTo_20 : decode cX1_addTo 20 = .ok (.ireturn, 1) := by decide +kernel
theorem dX1_writeField_0 : decode cX1_writeField 0 = .ok (.aload_n 0, 1) := by decide +kernel
theorem dX1_writeField_1 : decode cX1_writeField 1 = .ok (.lconst 0, 1) := by decide +kernel
theorem dX1_writeField_2 : decode cX1_writeField 2 = .ok (.putfield 35, 3) := by decide +kernel
theorem dX1_writeField_5 : decode cX1_writeField 5 = .ok (.iconst 0, 1) := by decide +kernel
theorem dX1_writeField_6 : decode cX1_writeField 6 = .ok (.istore 4, 2) := by decide +kernel
theorem dX1_writeField_8 : decode cX1_writeField 8 = .ok (.iload 4, 2) := by decide +kernel
theorem dX1_writeField_10 : decode cX1_writeField 10 = .ok (.aload_n 1, 1) := by decide +kernel
theorem dX1_writeField_11 : decode cX1_writeField 11 = .ok (.getfield 102, 3) := by decide +kernel
theorem dX1_writeField_14 : decode cX1_writeField 14 = .ok (.if_icmp .ge 25, 3) := by decide +kernel
theorem dX1_writeField_17 : decode cX1_writeField 17 = .ok (.aload_n 0, 1) := by decide +kernel
theorem dX1_writeField_18 : decode cX1_writeField 18 = .ok (.aload_n 0, 1) := by decide +kernel
theorem dX1_writeField_19 : decode cX1_writeField 19 = .ok (.getfield 29, 3) := by decide +kernel
theorem dX1_writeField_22 : decode cX1_writeField 22 = .ok (.iload 4, 2) := by decide +kernel
theorem dX1_writeField_24 : decode cX1_writeField 24 = .ok (.laload, 1) := by decide +kernel
theorem dX1_writeField_25 : decode cX1_writeField 25 = .ok (.invokevirtual 168, 3) := by decide +kernel
theorem dX1_writeField_28 : decode cX1_writeField 28 = .ok (.ifCond .ne 5, 3) := by decide +kernel
theorem dX1_writeField_31 : decode cX1_writeField 31 = .ok (.iconst 0, 1) := by decide +kernel
theorem dX1_writeField_32 : decode cX1_writeField 32 = .ok (.ireturn, 1) := by decide +kernel
theorem dX1_writeField_33 : decode cX1_writeField 33 = .ok (.iinc 4 1, 3) := by decide +kernel
theorem dX1_writeField_36 : decode cX1_writeField 36 = .ok (.goto (-28), 3) := by decide +kernel
theorem dX1_writeField_39 : decode cX1_writeField 39 = .ok (.aload_n 0, 1) := by decide +kernel
theorem dX1_writeField_40 : decode cX1_writeField 40 = .ok (.getfield 35, 3) := by decide +kernel
theorem dX1_writeField_43 : decode cX1_writeField 43 = .ok (.lstore 4, 2) := by decide +kernel
theorem dX1_writeField_45 : decode cX1_writeField 45 = .ok (.aload_n 0, 1) := by decide +kernel
theorem dX1_writeField_46 : decode cX1_writeField 46 = .ok (.aload_n 1, 1) := by decide +kernel
theorem dX1_writeField_47 : decode cX1_writeField 47 = .ok (.aload_n 2, 1) := by decide +kernel
theorem dX1_writeField_48 : decode cX1_writeField 48 = .ok (.iload_n 3, 1) := by decide +kernel
theorem dX1_writeField_49 : decode cX1_writeField 49 = .ok (.laload, 1) := by decide +kernel
theorem dX1_writeField_50 : decode cX1_writeField 50 = .ok (.invokevirtual 141, 3) := by decide +kernel
theorem dX1_writeField_53 : decode cX1_writeField 53 = .ok (.ifCond .ne 5, 3) := by decide +kernel
theorem dX1_writeField_56 : decode cX1_writeField 56 = .ok (.iconst 0, 1) := by decide +kernel
theorem dX1_writeField_57 : decode cX1_writeField 57 = .ok (.ireturn, 1) := by decide +kernel
theorem dX1_writeField_58 : decode cX1_writeField 58 = .ok (.aload_n 2, 1) := by decide +kernel
theorem dX1_writeField_59 : decode cX1_writeField 59 = .ok (.iload_n 3, 1) := by decide +kernel
theorem dX1_writeField_60 : decode cX1_writeField 60 = .ok (.lload 4, 2) := by decide +kernel
theorem dX1_writeField_62 : decode cX1_writeField 62 = .ok (.lastore, 1) := by decide +kernel
theorem dX1_writeField_63 : decode cX1_writeField 63 = .ok (.iconst 1, 1) := by decide +kernel
theorem dX1_writeField_64 : decode cX1_writeField 64 = .ok (.ireturn, 1) := by decide +kernel
theorem dX1_passBack_0 : decode cX1_passBack 0 = .ok (.aload_n 0, 1) := by decide +kernel
theorem dX1_passBack_1 : decode cX1_passBack 1 = .ok (.getfield 25, 3) := by decide +kernel
theorem dX1_passBack_4 : decode cX1_passBack 4 = .ok (.istore_n 1, 1) := by decide +kernel
theorem dX1_passBack_5 : decode cX1_passBack 5 = .ok (.iload_n 1, 1) := by decide +kernel
theorem dX1_passBack_6 : decode cX1_passBack 6 = .ok (.ifCond .le 71, 3) := by decide +kernel
theorem dX1_passBack_9 : decode cX1_passBack 9 = .ok (.aload_n 0, 1) := by decide +kernel
theorem dX1_passBack_10 : decode cX1_passBack 10 = .ok (.getfield 39, 3) := by decide +kernel
theorem dX1_passBack_13 : decode cX1_passBack 13 = .ok (.aload_n 0, 1) := by decide +kernel
theorem dX1_passBack_14 : decode cX1_passBack 14 = .ok (.getfield 17, 3) := by decide +kernel
theorem dX1_passBack_17 : decode cX1_passBack 17 = .ok (.iload_n 1, 1) := by decide +kernel
theorem dX1_passBack_18 : decode cX1_passBack 18 = .ok (.aaload, 1) := by decide +kernel
theorem dX1_passBack_19 : decode cX1_passBack 19 = .ok (.getfield 156, 3) := by decide +kernel
theorem dX1_passBack_22 : decode cX1_passBack 22 = .ok (.aload_n 0, 1) := by decide +kernel
theorem dX1_passBack_23 : decode cX1_passBack 23 = .ok (.getfield 17, 3) := by decide +kernel
theorem dX1_passBack_26 : decode cX1_passBack 26 = .ok (.iload_n 1, 1) := by decide +kernel
theorem dX1_passBack_27 : decode cX1_passBack 27 = .ok (.iconst 1, 1) := by decide +kernel
theorem dX1_passBack_28 : decode cX1_passBack 28 = .ok (.isub, 1) := by decide +kernel
theorem dX1_passBack_29 : decode cX1_passBack 29 = .ok (.aaload, 1) := by decide +kernel
theorem dX1_passBack_30 : decode cX1_passBack 30 = .ok (.getfield 156, 3) := by decide +kernel
theorem dX1_passBack_33 : decode cX1_passBack 33 = .ok (.aload_n 0, 1) := by decide +kernel
theorem dX1_passBack_34 : decode cX1_passBack 34 = .ok (.getfield 35, 3) := by decide +kernel
theorem dX1_passBack_37 : decode cX1_passBack 37 = .ok (.invokevirtual 130, 3) := by decide +kernel
theorem dX1_passBack_40 : decode cX1_passBack 40 = .ok (.ifCond .ne 20, 3) := by decide +kernel
theorem dX1_passBack_43 : decode cX1_passBack 43 = .ok (.aload_n 0, 1) := by decide +kernel
theorem dX1_passBack_44 : decode cX1_passBack 44 = .ok (.getfield 51, 3) := by decide +kernel
theorem dX1_passBack_47 : decode cX1_passBack 47 = .ok (.iconst 3, 1) := by decide +kernel
theorem dX1_passBack_48 : decode cX1_passBack 48 = .ok (.aload_n 0, 1) := by decide +kernel
theorem dX1_passBack_49 : decode cX1_passBack 49 = .ok (.getfield 39, 3) := by decide +kernel
theorem dX1_passBack_52 : decode cX1_passBack 52 = .ok (.getfield 120, 3) := by decide +kernel
theorem dX1_passBack_55 : decode cX1_passBack 55 = .ok (.invokevirtual 112, 3) := by decide +kernel
theorem dX1_passBack_58 : decode cX1_passBack 58 = .ok (.iconst 0, 1) := by decide +kernel
theorem dX1_passBack_59 : decode cX1_passBack 59 = .ok (.ireturn, 1) := by decide +kernel
theorem dX1_passBack_60 : decode cX1_passBack 60 = .ok (.aload_n 0, 1) := by decide +kernel
theorem dX1_passBack_61 : decode cX1_passBack 61 = .ok (.aload_n 0, 1) := by decide +kernel
theorem dX1_passBack_62 : decode cX1_passBack 62 = .ok (.getfield 39, 3) := by decide +kernel
theorem dX1_passBack_65 : decode cX1_passBack 65 = .ok (.getfield 134, 3) := by decide +kernel
theorem dX1_passBack_68 : decode cX1_passBack 68 = .ok (.putfield 35, 3) := by decide +kernel
theorem dX1_passBack_71 : decode cX1_passBack 71 = .ok (.iinc 1 (-1), 3) := by decide +kernel
theorem dX1_passBack_74 : decode cX1_passBack 74 = .ok (.goto (-69), 3) := by decide +kernel
theorem dX1_passBack_77 : decode cX1_passBack 77 = .ok (.iconst 1, 1) := by decide +kernel
theorem dX1_passBack_78 : decode cX1_passBack 78 = .ok (.ireturn, 1) := by decide +kernel
theorem dX2_init_0 : decode cX2_init 0 = .ok (.aload_n 0, 1) := by decide +kernel
theorem dX2_init_1 : decode cX2_init 1 = .ok (.invokespecial 3, 3) := by decide +kernel
theorem dX2_init_4 : decode cX2_init 4 = .ok (.aload_n 0, 1) := by decide +kernel
theorem dX2_init_5 : decode cX2_init 5 = .ok (.bipush 7, 2) := by decide +kernel
theorem dX2_init_7 : decode cX2_init 7 = .ok (.newarray .boolean, 2) := by decide +kernel
theorem dX2_init_9 : decode cX2_init 9 = .ok (.putfield 9, 3) := by decide +kernel
theorem dX2_init_12 : decode cX2_init 12 = .ok (.aload_n 0, 1) := by decide +kernel
theorem dX2_init_13 : decode cX2_init 13 = .ok (.bipush 7, 2) := by decide +kernel
theorem dX2_init_15 : decode cX2_init 15 = .ok (.newarray .long, 2) := by decide +kernel
theorem dX2_init_17 : decode cX2_init 17 = .ok (.putfield 15, 3) := by decide +kernel
theorem dX2_init_20 : decode cX2_init 20 = .ok (.return_, 1) := by decide +kernel
theorem dX2_held_0 : decode cX2_held 0 = .ok (.iconst 0, 1) := by decide +kernel
theorem dX2_held_1 : decode cX2_held 1 = .ok (.istore_n 1, 1) := by decide +kernel
theorem dX2_held_2 : decode cX2_held 2 = .ok (.aload_n 0, 1) := by decide +kernel
theorem dX2_held_3 : decode cX2_held 3 = .ok (.getfield 9, 3) := by decide +kernel
theorem dX2_held_6 : decode cX2_held 6 = .ok (.astore_n 2, 1) := by decide +kernel
theorem dX2_held_7 : decode cX2_held 7 = .ok (.aload_n 2, 1) := by decide +kernel
theorem dX2_held_8 : decode cX2_held 8 = .ok (.arraylength, 1) := by decide +kernel
theorem dX2_held_9 : decode cX2_held 9 = .ok (.istore_n 3, 1) := by decide +kernel
theorem dX2_held_10 : decode cX2_held 10 = .ok (.iconst 0, 1) := by decide +kernel
theorem dX2_held_11 : decode cX2_held 11 = .ok (.istore 4, 2) := by decide +kernel
theorem dX2_held_13 : decode cX2_held 13 = .ok (.iload 4, 2) := by decide +kernel
theorem dX2_held_15 : decode cX2_held 15 = .ok (.iload_n 3, 1) := by decide +kernel
theorem dX2_held_16 : decode cX2_held 16 = .ok (.if_icmp .ge 28, 3) := by decide +kernel
theorem dX2_held_19 : decode cX2_held 19 = .ok (.aload_n 2, 1) := by decide +kernel
theorem dX2_held_20 : decode cX2_held 20 = .ok (.iload 4, 2) := by decide +kernel
theorem dX2_held_22 : decode cX2_held 22 = .ok (.baload, 1) := by decide +kernel
theorem dX2_held_23 : decode cX2_held 23 = .ok (.istore 5, 2) := by decide +kernel
theorem dX2_held_25 : decode cX2_held 25 = .ok (.iload_n 1, 1) := by decide +kernel
theorem dX2_held_26 : decode cX2_held 26 = .ok (.iload 5, 2) := by decide +kernel
theorem dX2_held_28 : decode cX2_held 28 = .ok (.ifCond .eq 7, 3) := by decide +kernel
theorem dX2_held_31 : decode cX2_held 31 = .ok (.iconst 1, 1) := by decide +kernel
theorem dX2_held_32 : decode cX2_held 32 = .ok (.goto 4, 3) := by decide +kernel
theorem dX2_held_35 : decode cX2_held 35 = .ok (.iconst 0, 1) := by decide +kernel
theorem dX2_held_36 : decode cX2_held 36 = .ok (.iadd, 1) := by decide +kernel
theorem dX2_held_37 : decode cX2_held 37 = .ok (.istore_n 1, 1) := by decide +kernel
theorem dX2_held_38 : decode cX2_held 38 = .ok (.iinc 4 1, 3) := by decide +kernel
theorem dX2_held_41 : decode cX2_held 41 = .ok (.goto (-28), 3) := by decide +kernel
theorem dX2_held_44 : decode cX2_held 44 = .ok (.iload_n 1, 1) := by decide +kernel
theorem dX2_held_45 : decode cX2_held 45 = .ok (.ireturn, 1) := by decide +kernel
theorem dX3_init_0 : decode cX3_init 0 = .ok (.aload_n 0, 1) := by decide +kernel
theorem dX3_init_1 : decode cX3_init 1 = .ok (.invokespecial 3, 3) := by decide +kernel
theorem dX3_init_4 : decode cX3_init 4 = .ok (.aload_n 0, 1) := by decide +kernel
theorem dX3_init_5 : decode cX3_init 5 = .ok (.iconst 4, 1) := by decide +kernel
theorem dX3_init_6 : decode cX3_init 6 = .ok (.newarray .int, 2) := by decide +kernel
theorem dX3_init_8 : decode cX3_init 8 = .ok (.putfield 9, 3) := by decide +kernel
theorem dX3_init_11 : decode cX3_init 11 = .ok (.aload_n 0, 1) := by decide +kernel
theorem dX3_init_12 : decode cX3_init 12 = .ok (.ldc 15, 2) := by decide +kernel
theorem dX3_init_14 : decode cX3_init 14 = .ok (.putfield 16, 3) := by decide +kernel
theorem dX3_init_17 : decode cX3_init 17 = .ok (.aload_n 0, 1) := by decide +kernel
theorem dX3_init_18 : decode cX3_init 18 = .ok (.iconst (-1), 1) := by decide +kernel
theorem dX3_init_19 : decode cX3_init 19 = .ok (.putfield 20, 3) := by decide +kernel
theorem dX3_init_22 : decode cX3_init 22 = .ok (.aload_n 0, 1) := by decide +kernel
theorem dX3_init_23 : decode cX3_init 23 = .ok (.iconst 4, 1) := by decide +kernel
theorem dX3_init_24 : decode cX3_init 24 = .ok (.newarray .int, 2) := by decide +kernel
theorem dX3_init_26 : decode cX3_init 26 = .ok (.putfield 23, 3) := by decide +kernel
theorem dX3_init_29 : decode cX3_init 29 = .ok (.aload_n 0, 1) := by decide +kernel
theorem dX3_init_30 : decode cX3_init 30 = .ok (.aload_n 1, 1) := by decide +kernel
theorem dX3_init_31 : decode cX3_init 31 = .ok (.putfield 26, 3) := by decide +kernel
theorem dX3_init_34 : decode cX3_init 34 = .ok (.aload_n 0, 1) := by decide +kernel
theorem dX3_init_35 : decode cX3_init 35 = .ok (.aload_n 2, 1) := by decide +kernel
theorem dX3_init_36 : decode cX3_init 36 = .ok (.putfield 30, 3) := by decide +kernel
theorem dX3_init_39 : decode cX3_init 39 = .ok (.aload_n 0, 1) := by decide +kernel
theorem dX3_init_40 : decode cX3_init 40 = .ok (.aload_n 3, 1) := by decide +kernel
theorem dX3_init_41 : decode cX3_init 41 = .ok (.putfield 34, 3) := by decide +kernel
theorem dX3_init_44 : decode cX3_init 44 = .ok (.return_, 1) := by decide +kernel
theorem dX3_find_0 : decode cX3_find 0 = .ok (.aload_n 0, 1) := by decide +kernel
theorem dX3_find_1 : decode cX3_find 1 = .ok (.ldc 15, 2) := by decide +kernel
theorem dX3_find_3 : decode cX3_find 3 = .ok (.putfield 16, 3) := by decide +kernel
theorem dX3_find_6 : decode cX3_find 6 = .ok (.aload_n 0, 1) := by decide +kernel
theorem dX3_find_7 : decode cX3_find 7 = .ok (.iconst (-1), 1) := by decide +kernel
theorem dX3_find_8 : decode cX3_find 8 = .ok (.putfield 20, 3) := by decide +kernel
theorem dX3_find_11 : decode cX3_find 11 = .ok (.iconst 0, 1) := by decide +kernel
theorem dX3_find_12 : decode cX3_find 12 = .ok (.istore_n 3, 1) := by decide +kernel
theorem dX3_find_13 : decode cX3_find 13 = .ok (.iload_n 3, 1) := by decide +kernel
theorem dX3_find_14 : decode cX3_find 14 = .ok (.aload_n 2, 1) := by decide +kernel
theorem dX3_find_15 : decode cX3_find 15 = .ok (.getfield 38, 3) := by decide +kernel
theorem dX3_find_18 : decode cX3_find 18 = .ok (.if_icmp .ge 51, 3) := by decide +kernel
theorem dX3_find_21 : decode cX3_find 21 = .ok (.aload_n 2, 1) := by decide +kernel
theorem dX3_find_22 : decode cX3_find 22 = .ok (.getfield 43, 3) := by decide +kernel
theorem dX3_find_25 : decode cX3_find 25 = .ok (.iload_n 3, 1) := by decide +kernel
theorem dX3_find_26 : decode cX3_find 26 = .ok (.aaload, 1) := by decide +kernel
theorem dX3_find_27 : decode cX3_find 27 = .ok (.astore 4, 2) := by decide +kernel
theorem dX3_find_29 : decode cX3_find 29 = .ok (.aload_n 0, 1) := by decide +kernel
theorem dX3_find_30 : decode cX3_find 30 = .ok (.aload_n 1, 1) := by decide +kernel
theorem dX3_find_31 : decode cX3_find 31 = .ok (.aload 4, 2) := by decide +kernel
theorem dX3_find_33 : decode cX3_find 33 = .ok (.invokevirtual 47, 3) := by decide +kernel
theorem dX3_find_36 : decode cX3_find 36 = .ok (.istore 5, 2) := by decide +kernel
theorem dX3_find_38 : decode cX3_find 38 = .ok (.iload 5, 2) := by decide +kernel
theorem dX3_find_40 : decode cX3_find 40 = .ok (.iconst (-1), 1) := by decide +kernel
theorem dX3_find_41 : decode cX3_find 41 = .ok (.if_icmp .eq 22, 3) := by decide +kernel
theorem dX3_find_44 : decode cX3_find 44 = .ok (.aload_n 0, 1) := by decide +kernel
theorem dX3_find_45 : decode cX3_find 45 = .ok (.aload_n 1, 1) := by decide +kernel
theorem dX3_find_46 : decode cX3_find 46 = .ok (.aload 4, 2) := by decide +kernel
theorem dX3_find_48 : decode cX3_find 48 = .ok (.iconst 0, 1) := by decide +kernel
theorem dX3_find_49 : decode cX3_find 49 = .ok (.iconst 0, 1) := by decide +kernel
theorem dX3_find_50 : decode cX3_find 50 = .ok (.iload 5, 2) := by decide +kernel
theorem dX3_find_52 : decode cX3_find 52 = .ok (.invokevirtual 51, 3) := by decide +kernel
theorem dX3_find_55 : decode cX3_find 55 = .ok (.ifCond .eq 8, 3) := by decide +kernel
theorem dX3_find_58 : decode cX3_find 58 = .ok (.aload_n 0, 1) := by decide +kernel
theorem dX3_find_59 : decode cX3_find 59 = .ok (.iload_n 3, 1) := by decide +kernel
theorem dX3_find_60 : decode cX3_find 60 = .ok (.putfield 20, 3) := by decide +kernel
theorem dX3_find_63 : decode cX3_find 63 = .ok (.iinc 3 1, 3) := by decide +kernel
theorem dX3_find_66 : decode cX3_find 66 = .ok (.goto (-53), 3) := by decide +kernel
theorem dX3_find_69 : decode cX3_find 69 = .ok (.aload_n 0, 1) := by decide +kernel
theorem dX3_find_70 : decode cX3_find 70 = .ok (.getfield 20, 3) := by decide +kernel
theorem dX3_find_73 : decode cX3_find 73 = .ok (.iconst (-1), 1) := by decide +kernel
theorem dX3_find_74 : decode cX3_find 74 = .ok (.if_icmp .eq 7, 3) := by decide +kernel
theorem dX3_find_77 : decode cX3_find 77 = .ok (.iconst 1, 1) := by decide +kernel
theorem dX3_find_78 : decode cX3_find 78 = .ok (.goto 4, 3) := by decide +kernel
theorem dX3_find_81 : decode cX3_find 81 = .ok (.iconst 0, 1) := by decide +kernel
theorem dX3_find_82 : decode cX3_find 82 = .ok (.ireturn, 1) := by decide +kernel
theorem dX3_costOfAll_0 : decode cX3_costOfAll 0 = .ok (.iconst 0, 1) := by decide +kernel
theorem dX3_costOfAll_1 : decode cX3_costOfAll 1 = .ok (.istore_n 3, 1) := by decide +kernel
theorem dX3_costOfAll_2 : decode cX3_costOfAll 2 = .ok (.iconst 0, 1) := by decide +kernel
theorem dX3_costOfAll_3 : decode cX3_costOfAll 3 = .ok (.istore 4, 2) := by decide +kernel
theorem dX3_costOfAll_5 : decode cX3_costOfAll 5 = .ok (.iload 4, 2) := by decide +kernel
theorem dX3_costOfAll_7 : decode cX3_costOfAll 7 = .ok (.aload_n 1, 1) := by decide +kernel
theorem dX3_costOfAll_8 : decode cX3_costOfAll 8 = .ok (.getfield 38, 3) := by decide +kernel
theorem dX3_costOfAll_11 : decode cX3_costOfAll 11 = .ok (.if_icmp .ge 34, 3) := by decide +kernel
theorem dX3_costOfAll_14 : decode cX3_costOfAll 14 = .ok (.aload_n 0, 1) := by decide +kernel
theorem dX3_costOfAll_15 : decode cX3_costOfAll 15 = .ok (.aload_n 1, 1) := by decide +kernel
theorem dX3_costOfAll_16 : decode cX3_costOfAll 16 = .ok (.getfield 43, 3) := by decide +kernel
theorem dX3_costOfAll_19 : decode cX3_costOfAll 19 = .ok (.iload 4, 2) := by decide +kernel
theorem dX3_costOfAll_21 : decode cX3_costOfAll 21 = .ok (.aaload, 1) := by decide +kernel
theorem dX3_costOfAll_22 : decode cX3_costOfAll 22 = .ok (.aload_n 2, 1) := by decide +kernel
theorem dX3_costOfAll_23 : decode cX3_costOfAll 23 = .ok (.invokevirtual 55, 3) := by decide +kernel
theorem dX3_costOfAll_26 : decode cX3_costOfAll 26 = .ok (.ifCond .ne 6, 3) := by decide +kernel
theorem dX3_costOfAll_29 : decode cX3_costOfAll 29 = .ok (.bipush (-6), 2) := by decide +kernel
theorem dX3_costOfAll_31 : decode cX3_costOfAll 31 = .ok (.ireturn, 1) := by decide +kernel
theorem dX3_costOfAll_32 : decode cX3_costOfAll 32 = .ok (.iload_n 3, 1) := by decide +kernel
theorem dX3_costOfAll_33 : decode cX3_costOfAll 33 = .ok (.aload_n 0, 1) := by decide +kernel
theorem dX3_costOfAll_34 : decode cX3_costOfAll 34 = .ok (.getfield 16, 3) := by decide +kernel
theorem dX3_costOfAll_37 : decode cX3_costOfAll 37 = .ok (.iadd, 1) := by decide +kernel
theorem dX3_costOfAll_38 : decode cX3_costOfAll 38 = .ok (.istore_n 3, 1) := by decide +kernel
theorem dX3_costOfAll_39 : decode cX3_costOfAll 39 = .ok (.iinc 4 1, 3) := by decide +kernel
theorem dX3_costOfAll_42 : decode cX3_costOfAll 42 = .ok (.goto (-37), 3) := by decide +kernel
theorem dX3_costOfAll_45 : decode cX3_costOfAll 45 = .ok (.iload_n 3, 1) := by decide +kernel
theorem dX3_costOfAll_46 : decode cX3_costOfAll 46 = .ok (.ireturn, 1) := by decide +kernel
theorem dX3_firstGap_0 : decode cX3_firstGap 0 = .ok (.iconst 0, 1) := by decide +kernel
theorem dX3_firstGap_1 : decode cX3_firstGap 1 = .ok (.istore_n 3, 1) := by decide +kernel
theorem dX3_firstGap_2 : decode cX3_firstGap 2 = .ok (.iload_n 3, 1) := by decide +kernel
theorem dX3_firstGap_3 : decode cX3_firstGap 3 = .ok (.aload_n 1, 1) := by decide +kernel
theorem dX3_firstGap_4 : decode cX3_firstGap 4 = .ok (.getfield 38, 3) := by decide +kernel
theorem dX3_firstGap_7 : decode cX3_firstGap 7 = .ok (.if_icmp .ge 25, 3) := by decide +kernel
theorem dX3_firstGap_10 : decode cX3_firstGap 10 = .ok (.aload_n 0, 1) := by decide +kernel
theorem dX3_firstGap_11 : decode cX3_firstGap 11 = .ok (.aload_n 1, 1) := by decide +kernel
theorem dX3_firstGap_12 : decode cX3_firstGap 12 = .ok (.getfield 43, 3) := by decide +kernel
theorem dX3_firstGap_15 : decode cX3_firstGap 15 = .ok (.iload_n 3, 1) := by decide +kernel
theorem dX3_firstGap_16 : decode cX3_firstGap 16 = .ok (.aaload, 1) := by decide +kernel
theorem dX3_firstGap_17 : decode cX3_firstGap 17 = .ok (.aload_n 2, 1) := by decide +kernel
theorem dX3_firstGap_18 : decode cX3_firstGap 18 = .ok (.invokevirtual 55, 3) := by decide +kernel
theorem dX3_firstGap_21 : decode cX3_firstGap 21 = .ok (.ifCond .ne 5, 3) := by decide +kernel
theorem dX3_firstGap_24 : decode cX3_firstGap 24 = .ok (.iload_n 3, 1) := by decide +kernel
theorem dX3_firstGap_25 : decode cX3_firstGap 25 = .ok (.ireturn, 1) := by decide +kernel
theorem dX3_firstGap_26 : decode cX3_firstGap 26 = .ok (.iinc 3 1, 3) := by decide +kernel
theorem dX3_firstGap_29 : decode cX3_firstGap 29 = .ok (.goto (-27), 3) := by decide +kernel
theorem dX3_firstGap_32 : decode cX3_firstGap 32 = .ok (.iconst (-1), 1) := by decide +kernel
theorem dX3_firstGap_33 : decode cX3_firstGap 33 = .ok (.ireturn, 1) := by decide +kernel
theorem dX3_startOf_0 : decode cX3_startOf 0 = .ok (.aload_n 1, 1) := by decide +kernel
theorem dX3_startOf_1 : decode cX3_startOf 1 = .ok (.getfield 59, 3) := by decide +kernel
theorem dX3_startOf_4 : decode cX3_startOf 4 = .ok (.aload_n 2, 1) := by decide +kernel
theorem dX3_startOf_5 : decode cX3_startOf 5 = .ok (.getfield 59, 3) := by decide +kernel
theorem dX3_startOf_8 : decode cX3_startOf 8 = .ok (.if_icmp .ne 7, 3) := by decide +kernel
theorem dX3_startOf_11 : decode cX3_startOf 11 = .ok (.iconst 1, 1) := by decide +kernel
theorem dX3_startOf_12 : decode cX3_startOf 12 = .ok (.goto 4, 3) := by decide +kernel
theorem dX3_startOf_15 : decode cX3_startOf 15 = .ok (.iconst 0, 1) := by decide +kernel
theorem dX3_startOf_16 : decode cX3_startOf 16 = .ok (.istore_n 3, 1) := by decide +kernel
theorem dX3_startOf_17 : decode cX3_startOf 17 = .ok (.iload_n 3, 1) := by decide +kernel
theorem dX3_startOf_18 : decode cX3_startOf 18 = .ok (.ifCond .ne 23, 3) := by decide +kernel
theorem dX3_startOf_21 : decode cX3_startOf 21 = .ok (.aload_n 0, 1) := by decide +kernel
theorem dX3_startOf_22 : decode cX3_startOf 22 = .ok (.getfield 30, 3) := by decide +kernel
theorem dX3_startOf_25 : decode cX3_startOf 25 = .ok (.aload_n 1, 1) := by decide +kernel
theorem dX3_startOf_26 : decode cX3_startOf 26 = .ok (.getfield 59, 3) := by decide +kernel
theorem dX3_startOf_29 : decode cX3_startOf 29 = .ok (.aload_n 2, 1) := by decide +kernel
theorem dX3_startOf_30 : decode cX3_startOf 30 = .ok (.getfield 59, 3) := by decide +kernel
theorem dX3_startOf_33 : decode cX3_startOf 33 = .ok (.invokevirtual 64, 3) := by decide +kernel
theorem dX3_startOf_36 : decode cX3_startOf 36 = .ok (.ifCond .ne 5, 3) := by decide +kernel
theorem dX3_startOf_39 : decode cX3_startOf 39 = .ok (.iconst (-1), 1) := by decide +kernel
theorem dX3_startOf_40 : decode cX3_startOf 40 = .ok (.ireturn, 1) := by decide +kernel
theorem dX3_startOf_41 : decode cX3_startOf 41 = .ok (.aload_n 0, 1) := by decide +kernel
theorem dX3_startOf_42 : decode cX3_startOf 42 = .ok (.getfield 26, 3) := by decide +kernel
theorem dX3_startOf_45 : decode cX3_startOf 45 = .ok (.aload_n 2, 1) := by decide +kernel
theorem dX3_startOf_46 : decode cX3_startOf 46 = .ok (.getfield 70, 3) := by decide +kernel
theorem dX3_startOf_49 : decode cX3_startOf 49 = .ok (.aload_n 1, 1) := by decide +kernel
theorem dX3_startOf_50 : decode cX3_startOf 50 = .ok (.getfield 70, 3) := by decide +kernel
theorem dX3_startOf_53 : decode cX3_startOf 53 = .ok (.invokevirtual 73, 3) := by decide +kernel
theorem dX3_startOf_56 : decode cX3_startOf 56 = .ok (.istore 4, 2) := by decide +kernel
theorem dX3_startOf_58 : decode cX3_startOf 58 = .ok (.iload 4, 2) := by decide +kernel
theorem dX3_startOf_60 : decode cX3_startOf 60 = .ok (.iconst (-1), 1) := by decide +kernel
theorem dX3_startOf_61 : decode cX3_startOf 61 = .ok (.if_icmp .eq 7, 3) := by decide +kernel
theorem dX3_startOf_64 : decode cX3_startOf 64 = .ok (.iload_n 3, 1) := by decide +kernel
theorem dX3_startOf_65 : decode cX3_startOf 65 = .ok (.ifCond .eq 8, 3) := by decide +kernel
theorem dX3_startOf_68 : decode cX3_startOf 68 = .ok (.iload 4, 2) := by decide +kernel
theorem dX3_startOf_70 : decode cX3_startOf 70 = .ok (.goto 7, 3) := by decide +kernel
theorem dX3_startOf_73 : decode cX3_startOf 73 = .ok (.iload 4, 2) := by decide +kernel
theorem dX3_startOf_75 : decode cX3_startOf 75 = .ok (.iconst 2, 1) := by decide +kernel
theorem dX3_startOf_76 : decode cX3_startOf 76 = .ok (.iadd, 1) := by decide +kernel
theorem dX3_startOf_77 : decode cX3_startOf 77 = .ok (.ireturn, 1) := by decide +kernel
theorem dX3_assign_0 : decode cX3_assign 0 = .ok (.iload 5, 2) := by decide +kernel
theorem dX3_assign_2 : decode cX3_assign 2 = .ok (.aload_n 0, 1) := by decide +kernel
theorem dX3_assign_3 : decode cX3_assign 3 = .ok (.getfield 16, 3) := by decide +kernel
theorem dX3_assign_6 : decode cX3_assign 6 = .ok (.if_icmp .lt 5, 3) := by decide +kernel
theorem dX3_assign_9 : decode cX3_assign 9 = .ok (.iconst 0, 1) := by decide +kernel
theorem dX3_assign_10 : decode cX3_assign 10 = .ok (.ireturn, 1) := by decide +kernel
theorem dX3_assign_11 : decode cX3_assign 11 = .ok (.iload_n 3, 1) := by decide +kernel
theorem dX3_assign_12 : decode cX3_assign 12 = .ok (.aload_n 2, 1) := by decide +kernel
theorem dX3_assign_13 : decode cX3_assign 13 = .ok (.getfield 79, 3) := by decide +kernel
theorem dX3_assign_16 : decode cX3_assign 16 = .ok (.if_icmp .lt 23, 3) := by decide +kernel
theorem dX3_assign_19 : decode cX3_assign 19 = .ok (.aload_n 0, 1) := by decide +kernel
theorem dX3_assign_20 : decode cX3_assign 20 = .ok (.iload 5, 2) := by decide +kernel
theorem dX3_assign_22 : decode cX3_assign 22 = .ok (.iconst 4, 1) := by decide +kernel
theorem dX3_assign_23 : decode cX3_assign 23 = .ok (.aload_n 1, 1) := by decide +kernel
theorem dX3_assign_24 : decode cX3_assign 24 = .ok (.getfield 79, 3) := by decide +kernel
theorem dX3_assign_27 : decode cX3_assign 27 = .ok (.iload 4, 2) := by decide +kernel
theorem dX3_assign_29 : decode cX3_assign 29 = .ok (.invokestatic 82, 3) := by decide +kernel
theorem dX3_assign_32 : decode cX3_assign 32 = .ok (.isub, 1) := by decide +kernel
theorem dX3_assign_33 : decode cX3_assign 33 = .ok (.imul, 1) := by decide +kernel
theorem dX3_assign_34 : decode cX3_assign 34 = .ok (.iadd, 1) := by decide +kernel
theorem dX3_assign_35 : decode cX3_assign 35 = .ok (.invokevirtual 88, 3) := by decide +kernel
theorem dX3_assign_38 : decode cX3_assign 38 = .ok (.ireturn, 1) := by decide +kernel
theorem dX3_assign_39 : decode cX3_assign 39 = .ok (.iconst 0, 1) := by decide +kernel
theorem dX3_assign_40 : decode cX3_assign 40 = .ok (.istore 6, 2) := by decide +kernel
theorem dX3_assign_42 : decode cX3_assign 42 = .ok (.iconst 0, 1) := by decide +kernel
theorem dX3_assign_43 : decode cX3_assign 43 = .ok (.istore 7, 2) := by decide +kernel
theorem dX3_assign_45 : decode cX3_assign 45 = .ok (.iload 7, 2) := by decide +kernel
theorem dX3_assign_47 : decode cX3_assign 47 = .ok (.aload_n 1, 1) := by decide +kernel
theorem dX3_assign_48 : decode cX3_assign 48 = .ok (.getfield 79, 3) := by decide +kernel
theorem dX3_assign_51 : decode cX3_assign 51 = .ok (.if_icmp .ge 38, 3) := by decide +kernel
theorem dX3_assign_54 : decode cX3_assign 54 = .ok (.iload 4, 2) := by decide +kernel
theorem dX3_assign_56 : decode cX3_assign 56 = .ok (.iload 7, 2) := by decide +kernel
theorem dX3_assign_58 : decode cX3_assign 58 = .ok (.ishr, 1) := by decide +kernel
theorem dX3_assign_59 : decode cX3_assign 59 = .ok (.iconst 1, 1) := by decide +kernel
theorem dX3_assign_60 : decode cX3_assign 60 = .ok (.iand, 1) := by decide +kernel
theorem dX3_assign_61 : decode cX3_assign 61 = .ok (.ifCond .ne 22, 3) := by decide +kernel
theorem dX3_assign_64 : decode cX3_assign 64 = .ok (.aload_n 0, 1) := by decide +kernel
theorem dX3_assign_65 : decode cX3_assign 65 = .ok (.aload_n 1, 1) := by decide +kernel
theorem dX3_assign_66 : decode cX3_assign 66 = .ok (.aload_n 2, 1) := by decide +kernel
theorem dX3_assign_67 : decode cX3_assign 67 = .ok (.iload_n 3, 1) := by decide +kernel
theorem dX3_assign_68 : decode cX3_assign 68 = .ok (.iload 7, 2) := by decide +kernel
theorem dX3_assign_70 : decode cX3_assign 70 = .ok (.iload 4, 2) := by decide +kernel
theorem dX3_assign_72 : decode cX3_assign 72 = .ok (.iload 5, 2) := by decide +kernel
theorem dX3_assign_74 : decode cX3_assign 74 = .ok (.invokevirtual 92, 3) := by decide +kernel
theorem dX3_assign_77 : decode cX3_assign 77 = .ok (.ifCond .eq 6, 3) := by decide +kernel
theorem dX3_assign_80 : decode cX3_assign 80 = .ok (.iconst 1, 1) := by decide +kernel
theorem dX3_assign_81 : decode cX3_assign 81 = .ok (.istore 6, 2) := by decide +kernel
theorem dX3_assign_83 : decode cX3_assign 83 = .ok (.iinc 7 1, 3) := by decide +kernel
theorem dX3_assign_86 : decode cX3_assign 86 = .ok (.goto (-41), 3) := by decide +kernel
theorem dX3_assign_89 : decode cX3_assign 89 = .ok (.aload_n 0, 1) := by decide +kernel
theorem dX3_assign_90 : decode cX3_assign 90 = .ok (.getfield 34, 3) := by decide +kernel
theorem dX3_assign_93 : decode cX3_assign 93 = .ok (.getfield 96, 3) := by decide +kernel
theorem dX3_assign_96 : decode cX3_assign 96 = .ok (.aload_n 2, 1) := by decide +kernel
theorem dX3_assign_97 : decode cX3_assign 97 = .ok (.getfield 102, 3) := by decide +kernel
theorem dX3_assign_100 : decode cX3_assign 100 = .ok (.iload_n 3, 1) := by decide +kernel
theorem dX3_assign_101 : decode cX3_assign 101 = .ok (.iaload, 1) := by decide +kernel
theorem dX3_assign_102 : decode cX3_assign 102 = .ok (.baload, 1) := by decide +kernel
theorem dX3_assign_103 : decode cX3_assign 103 = .ok (.ifCond .eq 42, 3) := by decide +kernel
theorem dX3_assign_106 : decode cX3_assign 106 = .ok (.aload_n 0, 1) := by decide +kernel
theorem dX3_assign_107 : decode cX3_assign 107 = .ok (.getfield 9, 3) := by decide +kernel
theorem dX3_assign_110 : decode cX3_assign 110 = .ok (.iload_n 3, 1) := by decide +kernel
theorem dX3_assign_111 : decode cX3_assign 111 = .ok (.bipush 9, 2) := by decide +kernel
theorem dX3_assign_113 : decode cX3_assign 113 = .ok (.iastore, 1) := by decide +kernel
theorem dX3_assign_114 : decode cX3_assign 114 = .ok (.aload_n 0, 1) := by decide +kernel
theorem dX3_assign_115 : decode cX3_assign 115 = .ok (.aload_n 1, 1) := by decide +kernel
theorem dX3_assign_116 : decode cX3_assign 116 = .ok (.aload_n 2, 1) := by decide +kernel
theorem dX3_assign_117 : decode cX3_assign 117 = .ok (.iload_n 3, 1) := by decide +kernel
theorem dX3_assign_118 : decode cX3_assign 118 = .ok (.iconst 1, 1) := by decide +kernel
theorem dX3_assign_119 : decode cX3_assign 119 = .ok (.iadd, 1) := by decide +kernel
theorem dX3_assign_120 : decode cX3_assign 120 = .ok (.iload 4, 2) := by decide +kernel
theorem dX3_assign_122 : decode cX3_assign 122 = .ok (.iload 5, 2) := by decide +kernel
theorem dX3_assign_124 : decode cX3_assign 124 = .ok (.bipush 7, 2) := by decide +kernel
theorem dX3_assign_126 : decode cX3_assign 126 = .ok (.iadd, 1) := by decide +kernel
theorem dX3_assign_127 : decode cX3_assign 127 = .ok (.invokevirtual 51, 3) := by decide +kernel
theorem dX3_assign_130 : decode cX3_assign 130 = .ok (.ifCond .ne 8, 3) := by decide +kernel
theorem dX3_assign_133 : decode cX3_assign 133 = .ok (.iload 6, 2) := by decide +kernel
theorem dX3_assign_135 : decode cX3_assign 135 = .ok (.ifCond .eq 7, 3) := by decide +kernel
theorem dX3_assign_138 : decode cX3_assign 138 = .ok (.iconst 1, 1) := by decide +kernel
theorem dX3_assign_139 : decode cX3_assign 139 = .ok (.goto 4, 3) := by decide +kernel
theorem dX3_assign_142 : decode cX3_assign 142 = .ok (.iconst 0, 1) := by decide +kernel
theorem dX3_assign_143 : decode cX3_assign 143 = .ok (.istore 6, 2) := by decide +kernel
theorem dX3_assign_145 : decode cX3_assign 145 = .ok (.iload 6, 2) := by decide +kernel
theorem dX3_assign_147 : decode cX3_assign 147 = .ok (.ireturn, 1) := by decide +kernel
theorem dX3_take_0 : decode cX3_take 0 = .ok (.aload_n 0, 1) := by decide +kernel
theorem dX3_take_1 : decode cX3_take 1 = .ok (.getfield 26, 3) := by decide +kernel
theorem dX3_take_4 : decode cX3_take 4 = .ok (.aload_n 1, 1) := by decide +kernel
theorem dX3_take_5 : decode cX3_take 5 = .ok (.getfield 102, 3) := by decide +kernel
theorem dX3_take_8 : decode cX3_take 8 = .ok (.iload 4, 2) := by decide +kernel
theorem dX3_take_10 : decode cX3_take 10 = .ok (.iaload, 1) := by decide +kernel
theorem dX3_take_11 : decode cX3_take 11 = .ok (.aload_n 2, 1) := by decide +kernel
theorem dX3_take_12 : decode cX3_take 12 = .ok (.getfield 102, 3) := by decide +kernel
theorem dX3_take_15 : decode cX3_take 15 = .ok (.iload_n 3, 1) := by decide +kernel
theorem dX3_take_16 : decode cX3_take 16 = .ok (.iaload, 1) := by decide +kernel
theorem dX3_take_17 : decode cX3_take 17 = .ok (.invokevirtual 73, 3) := by decide +kernel
theorem dX3_take_20 : decode cX3_take 20 = .ok (.istore 7, 2) := by decide +kernel
theorem dX3_take_22 : decode cX3_take 22 = .ok (.iload 7, 2) := by decide +kernel
theorem dX3_take_24 : decode cX3_take 24 = .ok (.iconst (-1), 1) := by decide +kernel
theorem dX3_take_25 : decode cX3_take 25 = .ok (.if_icmp .ne 5, 3) := by decide +kernel
theorem dX3_take_28 : decode cX3_take 28 = .ok (.iconst 0, 1) := by decide +kernel
theorem dX3_take_29 : decode cX3_take 29 = .ok (.ireturn, 1) := by decide +kernel
theorem dX3_take_30 : decode cX3_take 30 = .ok (.aload_n 0, 1) := by decide +kernel
theorem dX3_take_31 : decode cX3_take 31 = .ok (.getfield 9, 3) := by decide +kernel
theorem dX3_take_34 : decode cX3_take 34 = .ok (.iload_n 3, 1) := by decide +kernel
theorem dX3_take_35 : decode cX3_take 35 = .ok (.iload 4, 2) := by decide +kernel
theorem dX3_take_37 : decode cX3_take 37 = .ok (.iastore, 1) := by decide +kernel
theorem dX3_take_38 : decode cX3_take 38 = .ok (.iload 4, 2) := by decide +kernel
theorem dX3_take_40 : decode cX3_take 40 = .ok (.iload_n 3, 1) := by decide +kernel
theorem dX3_take_41 : decode cX3_take 41 = .ok (.if_icmp .ne 7, 3) := by decide +kernel
theorem dX3_take_44 : decode cX3_take 44 = .ok (.iconst 0, 1) := by decide +kernel
theorem dX3_take_45 : decode cX3_take 45 = .ok (.goto 4, 3) := by decide +kernel
theorem dX3_take_48 : decode cX3_take 48 = .ok (.iconst 1, 1) := by decide +kernel
theorem dX3_take_49 : decode cX3_take 49 = .ok (.istore 8, 2) := by decide +kernel
theorem dX3_take_51 : decode cX3_take 51 = .ok (.aload_n 0, 1) := by decide +kernel
theorem dX3_take_52 : decode cX3_take 52 = .ok (.aload_n 1, 1) := by decide +kernel
theorem dX3_take_53 : decode cX3_take 53 = .ok (.aload_n 2, 1) := by decide +kernel
theorem dX3_take_54 : decode cX3_take 54 = .ok (.iload_n 3, 1) := by decide +kernel
theorem dX3_take_55 : decode cX3_take 55 = .ok (.iconst 1, 1) := by decide +kernel
theorem dX3_take_56 : decode cX3_take 56 = .ok (.iadd, 1) := by decide +kernel
theorem dX3_take_57 : decode cX3_take 57 = .ok (.iload 5, 2) := by decide +kernel
theorem dX3_take_59 : decode cX3_take 59 = .ok (.iconst 1, 1) := by decide +kernel
theorem dX3_take_60 : decode cX3_take 60 = .ok (.iload 4, 2) := by decide +kernel
theorem dX3_take_62 : decode cX3_take 62 = .ok (.ishl, 1) := by decide +kernel
theorem dX3_take_63 : decode cX3_take 63 = .ok (.ior, 1) := by decide +kernel
theorem dX3_take_64 : decode cX3_take 64 = .ok (.iload 6, 2) := by decide +kernel
theorem dX3_take_66 : decode cX3_take 66 = .ok (.iload 7, 2) := by decide +kernel
theorem dX3_take_68 : decode cX3_take 68 = .ok (.iadd, 1) := by decide +kernel
theorem dX3_take_69 : decode cX3_take 69 = .ok (.iload 8, 2) := by decide +kernel
theorem dX3_take_71 : decode cX3_take 71 = .ok (.iadd, 1) := by decide +kernel
theorem dX3_take_72 : decode cX3_take 72 = .ok (.invokevirtual 51, 3) := by decide +kernel
theorem dX3_take_75 : decode cX3_take 75 = .ok (.ireturn, 1) := by decide +kernel
theorem dX3_settle_0 : decode cX3_settle 0 = .ok (.iload_n 1, 1) := by decide +kernel
theorem dX3_settle_1 : decode cX3_settle 1 = .ok (.aload_n 0, 1) := by decide +kernel
theorem dX3_settle_2 : decode cX3_settle 2 = .ok (.getfield 16, 3) := by decide +kernel
theorem dX3_settle_5 : decode cX3_settle 5 = .ok (.if_icmp .lt 5, 3) := by decide +kernel
theorem dX3_settle_8 : decode cX3_settle 8 = .ok (.iconst 0, 1) := by decide +kernel
theorem dX3_settle_9 : decode cX3_settle 9 = .ok (.ireturn, 1) := by decide +kernel
theorem dX3_settle_10 : decode cX3_settle 10 = .ok (.aload_n 0, 1) := by decide +kernel
theorem dX3_settle_11 : decode cX3_settle 11 = .ok (.iload_n 1, 1) := by decide +kernel
theorem dX3_settle_12 : decode cX3_settle 12 = .ok (.putfield 16, 3) := by decide +kernel
theorem dX3_settle_15 : decode cX3_settle 15 = .ok (.aload_n 0, 1) := by decide +kernel
theorem dX3_settle_16 : decode cX3_settle 16 = .ok (.getfield 9, 3) := by decide +kernel
theorem dX3_settle_19 : decode cX3_settle 19 = .ok (.iconst 0, 1) := by decide +kernel
theorem dX3_settle_20 : decode cX3_settle 20 = .ok (.aload_n 0, 1) := by decide +kernel
theorem dX3_settle_21 : decode cX3_settle 21 = .ok (.getfield 23, 3) := by decide +kernel
theorem dX3_settle_24 : decode cX3_settle 24 = .ok (.iconst 0, 1) := by decide +kernel
theorem dX3_settle_25 : decode cX3_settle 25 = .ok (.iconst 4, 1) := by decide +kernel
theorem dX3_settle_26 : decode cX3_settle 26 = .ok (.invokestatic 105, 3) := by decide +kernel
theorem dX3_settle_29 : decode cX3_settle 29 = .ok (.iconst 1, 1) := by decide +kernel
theorem dX3_settle_30 : decode cX3_settle 30 = .ok (.ireturn, 1) := by decide +kernel
theorem dX4_init_0 : decode cX4_init 0 = .ok (.aload_n 0, 1) := by decide +kernel
theorem dX4_init_1 : decode cX4_init 1 = .ok (.invokespecial 3, 3) := by decide +kernel
theorem dX4_init_4 : decode cX4_init 4 = .ok (.aload_n 0, 1) := by decide +kernel
theorem dX4_init_5 : decode cX4_init 5 = .ok (.lconst 0, 1) := by decide +kernel
theorem dX4_init_6 : decode cX4_init 6 = .ok (.putfield 9, 3) := by decide +kernel
theorem dX4_init_9 : decode cX4_init 9 = .ok (.aload_n 0, 1) := by decide +kernel
theorem dX4_init_10 : decode cX4_init 10 = .ok (.iconst (-1), 1) := by decide +kernel
theorem dX4_init_11 : decode cX4_init 11 = .ok (.putfield 15, 3) := by decide +kernel
theorem dX4_init_14 : decode cX4_init 14 = .ok (.aload_n 0, 1) := by decide +kernel
theorem dX4_init_15 : decode cX4_init 15 = .ok (.iconst (-1), 1) := by decide +kernel
theorem dX4_init_16 : decode cX4_init 16 = .ok (.putfield 19, 3) := by decide +kernel
theorem dX4_init_19 : decode cX4_init 19 = .ok (.aload_n 0, 1) := by decide +kernel
theorem dX4_init_20 : decode cX4_init 20 = .ok (.iconst 0, 1) := by decide +kernel
theorem dX4_init_21 : decode cX4_init 21 = .ok (.putfield 22, 3) := by decide +kernel
theorem dX4_init_24 : decode cX4_init 24 = .ok (.aload_n 0, 1) := by decide +kernel
theorem dX4_init_25 : decode cX4_init 25 = .ok (.iconst 0, 1) := by decide +kernel
theorem dX4_init_26 : decode cX4_init 26 = .ok (.putfield 25, 3) := by decide +kernel
theorem dX4_init_29 : decode cX4_init 29 = .ok (.return_, 1) := by decide +kernel
theorem dX4_noteFailure_0 : decode cX4_noteFailure 0 = .ok (.aload_n 0, 1) := by decide +kernel
theorem dX4_noteFailure_1 : decode cX4_noteFailure 1 = .ok (.iload_n 1, 1) := by decide +kernel
theorem dX4_noteFailure_2 : decode cX4_noteFailure 2 = .ok (.putfield 15, 3) := by decide +kernel
theorem dX4_noteFailure_5 : decode cX4_noteFailure 5 = .ok (.aload_n 0, 1) := by decide +kernel
theorem dX4_noteFailure_6 : decode cX4_noteFailure 6 = .ok (.iload_n 2, 1) := by decide +kernel
theorem dX4_noteFailure_7 : decode cX4_noteFailure 7 = .ok (.putfield 19, 3) := by decide +kernel
theorem dX4_noteFailure_10 : decode cX4_noteFailure 10 = .ok (.return_, 1) := by decide +kernel
theorem dX5_init_0 : decode cX5_init 0 = .ok (.aload_n 0, 1) := by decide +kernel
theorem dX5_init_1 : decode cX5_init 1 = .ok (.invokespecial 3, 3) := by decide +kernel
theorem dX5_init_4 : decode cX5_init 4 = .ok (.aload_n 0, 1) := by decide +kernel
theorem dX5_init_5 : decode cX5_init 5 = .ok (.iconst 0, 1) := by decide +kernel
theorem dX5_init_6 : decode cX5_init 6 = .ok (.putfield 9, 3) := by decide +kernel
theorem dX5_init_9 : decode cX5_init 9 = .ok (.aload_n 0, 1) := by decide +kernel
theorem dX5_init_10 : decode cX5_init 10 = .ok (.iconst 0, 1) := by decide +kernel
theorem dX5_init_11 : decode cX5_init 11 = .ok (.putfield 15, 3) := by decide +kernel
theorem dX5_init_14 : decode cX5_init 14 = .ok (.aload_n 0, 1) := by decide +kernel
theorem dX5_init_15 : decode cX5_init 15 = .ok (.iconst 0, 1) := by decide +kernel
theorem dX5_init_16 : decode cX5_init 16 = .ok (.putfield 18, 3) := by decide +kernel
theorem dX5_init_19 : decode cX5_init 19 = .ok (.aload_n 0, 1) := by decide +kernel
theorem dX5_init_20 : decode cX5_init 20 = .ok (.iconst 4, 1) := by decide +kernel
theorem dX5_init_21 : decode cX5_init 21 = .ok (.newarray .int, 2) := by decide +kernel
theorem dX5_init_23 : decode cX5_init 23 = .ok (.putfield 21, 3) := by decide +kernel
theorem dX5_init_26 : decode cX5_init 26 = .ok (.aload_n 0, 1) := by decide +kernel
theorem dX5_init_27 : decode cX5_init 27 = .ok (.iconst 0, 1) := by decide +kernel
theorem dX5_init_28 : decode cX5_init 28 = .ok (.putfield 25, 3) := by decide +kernel
theorem dX5_init_31 : decode cX5_init 31 = .ok (.aload_n 0, 1) := by decide +kernel
theorem dX5_init_32 : decode cX5_init 32 = .ok (.iconst (-1), 1) := by decide +kernel
theorem dX5_init_33 : decode cX5_init 33 = .ok (.putfield 28, 3) := by decide +kernel
theorem dX5_init_36 : decode cX5_init 36 = .ok (.aload_n 0, 1) := by decide +kernel
theorem dX5_init_37 : decode cX5_init 37 = .ok (.iconst 0, 1) := by decide +kernel
theorem dX5_init_38 : decode cX5_init 38 = .ok (.putfield 31, 3) := by decide +kernel
theorem dX5_init_41 : decode cX5_init 41 = .ok (.aload_n 0, 1) := by decide +kernel
theorem dX5_init_42 : decode cX5_init 42 = .ok (.iconst 4, 1) := by decide +kernel
theorem dX5_init_43 : decode cX5_init 43 = .ok (.newarray .int, 2) := by decide +kernel
theorem dX5_init_45 : decode cX5_init 45 = .ok (.putfield 34, 3) := by decide +kernel
theorem dX5_init_48 : decode cX5_init 48 = .ok (.return_, 1) := by decide +kernel
theorem dX5_become_0 : decode cX5_become 0 = .ok (.aload_n 0, 1) := by decide +kernel
theorem dX5_become_1 : decode cX5_become 1 = .ok (.iload_n 1, 1) := by decide +kernel
theorem dX5_become_2 : decode cX5_become 2 = .ok (.putfield 9, 3) := by decide +kernel
theorem dX5_become_5 : decode cX5_become 5 = .ok (.aload_n 0, 1) := by decide +kernel
theorem dX5_become_6 : decode cX5_become 6 = .ok (.iload_n 2, 1) := by decide +kernel
theorem dX5_become_7 : decode cX5_become 7 = .ok (.bipush 7, 2) := by decide +kernel
theorem dX5_become_9 : decode cX5_become 9 = .ok (.iand, 1) := by decide +kernel
theorem dX5_become_10 : decode cX5_become 10 = .ok (.putfield 15, 3) := by decide +kernel
theorem dX5_become_13 : decode cX5_become 13 = .ok (.aload_n 0, 1) := by decide +kernel
theorem dX5_become_14 : decode cX5_become 14 = .ok (.iconst 0, 1) := by decide +kernel
theorem dX5_become_15 : decode cX5_become 15 = .ok (.putfield 18, 3) := by decide +kernel
theorem dX5_become_18 : decode cX5_become 18 = .ok (.iload_n 2, 1) := by decide +kernel
theorem dX5_become_19 : decode cX5_become 19 = .ok (.iconst 3, 1) := by decide +kernel
theorem dX5_become_20 : decode cX5_become 20 = .ok (.ishr, 1) := by decide +kernel
theorem dX5_become_21 : decode cX5_become 21 = .ok (.istore_n 3, 1) := by decide +kernel
theorem dX5_become_22 : decode cX5_become 22 = .ok (.iconst 0, 1) := by decide +kernel
theorem dX5_become_23 : decode cX5_become 23 = .ok (.istore 4, 2) := by decide +kernel
theorem dX5_become_25 : decode cX5_become 25 = .ok (.iload 4, 2) := by decide +kernel
theorem dX5_become_27 : decode cX5_become 27 = .ok (.iconst 4, 1) := by decide +kernel
theorem dX5_become_28 : decode cX5_become 28 = .ok (.if_icmp .ge 40, 3) := by decide +kernel
theorem dX5_become_31 : decode cX5_become 31 = .ok (.iload_n 3, 1) := by decide +kernel
theorem dX5_become_32 : decode cX5_become 32 = .ok (.ifCond .eq 36, 3) := by decide +kernel
theorem dX5_become_35 : decode cX5_become 35 = .ok (.aload_n 0, 1) := by decide +kernel
theorem dX5_become_36 : decode cX5_become 36 = .ok (.getfield 21, 3) := by decide +kernel
theorem dX5_become_39 : decode cX5_become 39 = .ok (.iload 4, 2) := by decide +kernel
theorem dX5_become_41 : decode cX5_become 41 = .ok (.iload_n 3, 1) := by decide +kernel
theorem dX5_become_42 : decode cX5_become 42 = .ok (.bipush 7, 2) := by decide +kernel
theorem dX5_become_44 : decode cX5_become 44 = .ok (.iand, 1) := by decide +kernel
theorem dX5_become_45 : decode cX5_become 45 = .ok (.iconst 1, 1) := by decide +kernel
theorem dX5_become_46 : decode cX5_become 46 = .ok (.isub, 1) := by decide +kernel
theorem dX5_become_47 : decode cX5_become 47 = .ok (.iastore, 1) := by decide +kernel
theorem dX5_become_48 : decode cX5_become 48 = .ok (.iload_n 3, 1) := by decide +kernel
theorem dX5_become_49 : decode cX5_become 49 = .ok (.iconst 3, 1) := by decide +kernel
theorem dX5_become_50 : decode cX5_become 50 = .ok (.ishr, 1) := by decide +kernel
theorem dX5_become_51 : decode cX5_become 51 = .ok (.istore_n 3, 1) := by decide +kernel
theorem dX5_become_52 : decode cX5_become 52 = .ok (.aload_n 0, 1) := by decide +kernel
theorem dX5_become_53 : decode cX5_become 53 = .ok (.dup, 1) := by decide +kernel
theorem dX5_become_54 : decode cX5_become 54 = .ok (.getfield 18, 3) := by decide +kernel
theorem dX5_become_57 : decode cX5_become 57 = .ok (.iconst 1, 1) := by decide +kernel
theorem dX5_become_58 : decode cX5_become 58 = .ok (.iadd, 1) := by decide +kernel
theorem dX5_become_59 : decode cX5_become 59 = .ok (.putfield 18, 3) := by decide +kernel
theorem dX5_become_62 : decode cX5_become 62 = .ok (.iinc 4 1, 3) := by decide +kernel
theorem dX5_become_65 : decode cX5_become 65 = .ok (.goto (-40), 3) := by decide +kernel
theorem dX5_become_68 : decode cX5_become 68 = .ok (.aload_n 0, 1) := by decide +kernel
theorem dX5_become_69 : decode cX5_become 69 = .ok (.iconst 0, 1) := by decide +kernel
theorem dX5_become_70 : decode cX5_become 70 = .ok (.iconst (-1), 1) := by decide +kernel
theorem dX5_become_71 : decode cX5_become 71 = .ok (.iconst 0, 1) := by decide +kernel
theorem dX5_become_72 : decode cX5_become 72 = .ok (.invokevirtual 37, 3) := by decide +kernel
theorem dX5_become_75 : decode cX5_become 75 = .ok (.aload_n 0, 1) := by decide +kernel
theorem dX5_become_76 : decode cX5_become 76 = .ok (.getfield 34, 3) := by decide +kernel
theorem dX5_become_79 : decode cX5_become 79 = .ok (.iconst 1, 1) := by decide +kernel
theorem dX5_become_80 : decode cX5_become 80 = .ok (.invokestatic 41, 3) := by decide +kernel
theorem dX5_become_83 : decode cX5_become 83 = .ok (.return_, 1) := by decide +kernel
theorem dX5_setWork_0 : decode cX5_setWork 0 = .ok (.aload_n 0, 1) := by decide +kernel
theorem dX5_setWork_1 : decode cX5_setWork 1 = .ok (.iload_n 1, 1) := by decide +kernel
theorem dX5_setWork_2 : decode cX5_setWork 2 = .ok (.putfield 25, 3) := by decide +kernel
theorem dX5_setWork_5 : decode cX5_setWork 5 = .ok (.aload_n 0, 1) := by decide +kernel
theorem dX5_setWork_6 : decode cX5_setWork 6 = .ok (.iload_n 2, 1) := by decide +kernel
theorem dX5_setWork_7 : decode cX5_setWork 7 = .ok (.putfield 28, 3) := by decide +kernel
theorem dX5_setWork_10 : decode cX5_setWork 10 = .ok (.aload_n 0, 1) := by decide +kernel
theorem dX5_setWork_11 : decode cX5_setWork 11 = .ok (.iload_n 3, 1) := by decide +kernel
theorem dX5_setWork_12 : decode cX5_setWork 12 = .ok (.putfield 31, 3) := by decide +kernel
theorem dX5_setWork_15 : decode cX5_setWork 15 = .ok (.return_, 1) := by decide +kernel
theorem dX6_init_0 : decode cX6_init 0 = .ok (.aload_n 0, 1) := by decide +kernel
theorem dX6_init_1 : decode cX6_init 1 = .ok (.invokespecial 3, 3) := by decide +kernel
theorem dX6_init_4 : decode cX6_init 4 = .ok (.aload_n 0, 1) := by decide +kernel
theorem dX6_init_5 : decode cX6_init 5 = .ok (.bipush 32, 2) := by decide +kernel
theorem dX6_init_7 : decode cX6_init 7 = .ok (.newarray .int, 2) := by decide +kernel
theorem dX6_init_9 : decode cX6_init 9 = .ok (.putfield 11, 3) := by decide +kernel
theorem dX6_init_12 : decode cX6_init 12 = .ok (.aload_n 0, 1) := by decide +kernel
theorem dX6_init_13 : decode cX6_init 13 = .ok (.bipush 32, 2) := by decide +kernel
theorem dX6_init_15 : decode cX6_init 15 = .ok (.newarray .int, 2) := by decide +kernel
theorem dX6_init_17 : decode cX6_init 17 = .ok (.putfield 15, 3) := by decide +kernel
theorem dX6_init_20 : decode cX6_init 20 = .ok (.aload_n 0, 1) := by decide +kernel
theorem dX6_init_21 : decode cX6_init 21 = .ok (.bipush 32, 2) := by decide +kernel
theorem dX6_init_23 : decode cX6_init 23 = .ok (.newarray .int, 2) := by decide +kernel
theorem dX6_init_25 : decode cX6_init 25 = .ok (.putfield 18, 3) := by decide +kernel
theorem dX6_init_28 : decode cX6_init 28 = .ok (.aload_n 0, 1) := by decide +kernel
theorem dX6_init_29 : decode cX6_init 29 = .ok (.bipush 32, 2) := by decide +kernel
theorem dX6_init_31 : decode cX6_init 31 = .ok (.newarray .int, 2) := by decide +kernel
theorem dX6_init_33 : decode cX6_init 33 = .ok (.putfield 21, 3) := by decide +kernel
theorem dX6_init_36 : decode cX6_init 36 = .ok (.aload_n 0, 1) := by decide +kernel
theorem dX6_init_37 : decode cX6_init 37 = .ok (.bipush 32, 2) := by decide +kernel
theorem dX6_init_39 : decode cX6_init 39 = .ok (.newarray .int, 2) := by decide +kernel
theorem dX6_init_41 : decode cX6_init 41 = .ok (.putfield 24, 3) := by decide +kernel
theorem dX6_init_44 : decode cX6_init 44 = .ok (.aload_n 0, 1) := by decide +kernel
theorem dX6_init_45 : decode cX6_init 45 = .ok (.bipush 32, 2) := by decide +kernel
theorem dX6_init_47 : decode cX6_init 47 = .ok (.newarray .boolean, 2) := by decide +kernel
theorem dX6_init_49 : decode cX6_init 49 = .ok (.putfield 27, 3) := by decide +kernel
theorem dX6_init_52 : decode cX6_init 52 = .ok (.aload_n 0, 1) := by decide +kernel
theorem dX6_init_53 : decode cX6_init 53 = .ok (.iconst 0, 1) := by decide +kernel
theorem dX6_init_54 : decode cX6_init 54 = .ok (.putfield 31, 3) := by decide +kernel
theorem dX6_init_57 : decode cX6_init 57 = .ok (.aload_n 0, 1) := by decide +kernel
theorem dX6_init_58 : decode cX6_init 58 = .ok (.iconst 0, 1) := by decide +kernel
theorem dX6_init_59 : decode cX6_init 59 = .ok (.putfield 35, 3) := by decide +kernel
theorem dX6_init_62 : decode cX6_init 62 = .ok (.aload_n 0, 1) := by decide +kernel
theorem dX6_init_63 : decode cX6_init 63 = .ok (.bipush 49, 2) := by decide +kernel
theorem dX6_init_65 : decode cX6_init 65 = .ok (.newarray .int, 2) := by decide +kernel
theorem dX6_init_67 : decode cX6_init 67 = .ok (.putfield 38, 3) := by decide +kernel
theorem dX6_init_70 : decode cX6_init 70 = .ok (.aload_n 0, 1) := by decide +kernel
theorem dX6_init_71 : decode cX6_init 71 = .ok (.bipush 49, 2) := by decide +kernel
theorem dX6_init_73 : decode cX6_init 73 = .ok (.newarray .int, 2) := by decide +kernel
theorem dX6_init_75 : decode cX6_init 75 = .ok (.putfield 41, 3) := by decide +kernel
theorem dX6_init_78 : decode cX6_init 78 = .ok (.aload_n 0, 1) := by decide +kernel
theorem dX6_init_79 : decode cX6_init 79 = .ok (.lconst 0, 1) := by decide +kernel
theorem dX6_init_80 : decode cX6_init 80 = .ok (.putfield 44, 3) := by decide +kernel
theorem dX6_init_83 : decode cX6_init 83 = .ok (.aload_n 0, 1) := by decide +kernel
theorem dX6_init_84 : decode cX6_init 84 = .ok (.iconst (-1), 1) := by decide +kernel
theorem dX6_init_85 : decode cX6_init 85 = .ok (.putfield 48, 3) := by decide +kernel
theorem dX6_init_88 : decode cX6_init 88 = .ok (.iconst 0, 1) := by decide +kernel
theorem dX6_init_89 : decode cX6_init 89 = .ok (.istore_n 1, 1) := by decide +kernel
theorem dX6_init_90 : decode cX6_init 90 = .ok (.iload_n 1, 1) := by decide +kernel
theorem dX6_init_91 : decode cX6_init 91 = .ok (.bipush 12, 2) := by decide +kernel
theorem dX6_init_93 : decode cX6_init 93 = .ok (.if_icmp .ge 34, 3) := by decide +kernel
theorem dX6_init_96 : decode cX6_init 96 = .ok (.aload_n 0, 1) := by decide +kernel
theorem dX6_init_97 : decode cX6_init 97 = .ok (.getstatic 51, 3) := by decide +kernel
theorem dX6_init_100 : decode cX6_init 100 = .ok (.iload_n 1, 1) := by decide +kernel
theorem dX6_init_101 : decode cX6_init 101 = .ok (.iaload, 1) := by decide +kernel
theorem dX6_init_102 : decode cX6_init 102 = .ok (.getstatic 54, 3) := by decide +kernel
theorem dX6_init_105 : decode cX6_init 105 = .ok (.iload_n 1, 1) := by decide +kernel
theorem dX6_init_106 : decode cX6_init 106 = .ok (.iaload, 1) := by decide +kernel
theorem dX6_init_107 : decode cX6_init 107 = .ok (.getstatic 57, 3) := by decide +kernel
theorem dX6_init_110 : decode cX6_init 110 = .ok (.iload_n 1, 1) := by decide +kernel
theorem dX6_init_111 : decode cX6_init 111 = .ok (.iaload, 1) := by decide +kernel
theorem dX6_init_112 : decode cX6_init 112 = .ok (.getstatic 60, 3) := by decide +kernel
theorem dX6_init_115 : decode cX6_init 115 = .ok (.iload_n 1, 1) := by decide +kernel
theorem dX6_init_116 : decode cX6_init 116 = .ok (.iaload, 1) := by decide +kernel
theorem dX6_init_117 : decode cX6_init 117 = .ok (.iconst 0, 1) := by decide +kernel
theorem dX6_init_118 : decode cX6_init 118 = .ok (.invokevirtual 63, 3) := by decide +kernel
theorem dX6_init_121 : decode cX6_init 121 = .ok (.iinc 1 1, 3) := by decide +kernel
theorem dX6_init_124 : decode cX6_init 124 = .ok (.goto (-34), 3) := by decide +kernel
theorem dX6_init_127 : decode cX6_init 127 = .ok (.aload_n 0, 1) := by decide +kernel
theorem dX6_init_128 : decode cX6_init 128 = .ok (.invokevirtual 67, 3) := by decide +kernel
theorem dX6_init_131 : decode cX6_init 131 = .ok (.return_, 1) := by decide +kernel
theorem dX6_hasRoom_0 : decode cX6_hasRoom 0 = .ok (.aload_n 0, 1) := by decide +kernel
theorem dX6_hasRoom_1 : decode cX6_hasRoom 1 = .ok (.getfield 31, 3) := by decide +kernel
theorem dX6_hasRoom_4 : decode cX6_hasRoom 4 = .ok (.bipush 32, 2) := by decide +kernel
theorem dX6_hasRoom_6 : decode cX6_hasRoom 6 = .ok (.if_icmp .ge 7, 3) := by decide +kernel
theorem dX6_hasRoom_9 : decode cX6_hasRoom 9 = .ok (.iconst 1, 1) := by decide +kernel
theorem dX6_hasRoom_10 : decode cX6_hasRoom 10 = .ok (.goto 4, 3) := by decide +kernel
theorem dX6_hasRoom_13 : decode cX6_hasRoom 13 = .ok (.iconst 0, 1) := by decide +kernel
theorem dX6_hasRoom_14 : decode cX6_hasRoom 14 = .ok (.ireturn, 1) := by decide +kernel
theorem dX6_tell_0 : decode cX6_tell 0 = .ok (.aload_n 0, 1) := by decide +kernel
theorem dX6_tell_1 : decode cX6_tell 1 = .ok (.iload_n 1, 1) := by decide +kernel
theorem dX6_tell_2 : decode cX6_tell 2 = .ok (.iload_n 2, 1) := by decide +kernel
theorem dX6_tell_3 : decode cX6_tell 3 = .ok (.iload_n 3, 1) := by decide +kernel
theorem dX6_tell_4 : decode cX6_tell 4 = .ok (.iload 4, 2) := by decide +kernel
theorem dX6_tell_6 : decode cX6_tell 6 = .ok (.iload 5, 2) := by decide +kernel
theorem dX6_tell_8 : decode cX6_tell 8 = .ok (.invokevirtual 63, 3) := by decide +kernel
theorem dX6_tell_11 : decode cX6_tell 11 = .ok (.aload_n 0, 1) := by decide +kernel
theorem dX6_tell_12 : decode cX6_tell 12 = .ok (.invokevirtual 67, 3) := by decide +kernel
theorem dX6_tell_15 : decode cX6_tell 15 = .ok (.aload_n 0, 1) := by decide +kernel
theorem dX6_tell_16 : decode cX6_tell 16 = .ok (.getfield 31, 3) := by decide +kernel
theorem dX6_tell_19 : decode cX6_tell 19 = .ok (.iconst 1, 1) := by decide +kernel
theorem dX6_tell_20 : decode cX6_tell 20 = .ok (.isub, 1) := by decide +kernel
theorem dX6_tell_21 : decode cX6_tell 21 = .ok (.ireturn, 1) := by decide +kernel
theorem dX6_canForget_0 : decode cX6_canForget 0 = .ok (.iload_n 1, 1) := by decide +kernel
theorem dX6_canForget_1 : decode cX6_canForget 1 = .ok (.bipush 12, 2) := by decide +kernel
theorem dX6_canForget_3 : decode cX6_canForget 3 = .ok (.aload_n 0, 1) := by decide +kernel
theorem dX6_canForget_4 : decode cX6_canForget 4 = .ok (.getfield 31, 3) := by decide +kernel
theorem dX6_canForget_7 : decode cX6_canForget 7 = .ok (.iconst 1, 1) := by decide +kernel
theorem dX6_canForget_8 : decode cX6_canForget 8 = .ok (.isub, 1) := by decide +kernel
theorem dX6_canForget_9 : decode cX6_canForget 9 = .ok (.invokestatic 70, 3) := by decide +kernel
theorem dX6_canForget_12 : decode cX6_canForget 12 = .ok (.ifCond .eq 16, 3) := by decide +kernel
theorem dX6_canForget_15 : decode cX6_canForget 15 = .ok (.aload_n 0, 1) := by decide +kernel
theorem dX6_canForget_16 : decode cX6_canForget 16 = .ok (.getfield 27, 3) := by decide +kernel
theorem dX6_canForget_19 : decode cX6_canForget 19 = .ok (.iload_n 1, 1) := by decide +kernel
theorem dX6_canForget_20 : decode cX6_canForget 20 = .ok (.baload, 1) := by decide +kernel
theorem dX6_canForget_21 : decode cX6_canForget 21 = .ok (.ifCond .eq 7, 3) := by decide +kernel
theorem dX6_canForget_24 : decode cX6_canForget 24 = .ok (.iconst 1, 1) := by decide +kernel
theorem dX6_canForget_25 : decode cX6_canForget 25 = .ok (.goto 4, 3) := by decide +kernel
theorem dX6_canForget_28 : decode cX6_canForget 28 = .ok (.iconst 0, 1) := by decide +kernel
theorem dX6_canForget_29 : decode cX6_canForget 29 = .ok (.ireturn, 1) := by decide +kernel
theorem dX6_forget_0 : decode cX6_forget 0 = .ok (.aload_n 0, 1) := by decide +kernel
theorem dX6_forget_1 : decode cX6_forget 1 = .ok (.getfield 27, 3) := by decide +kernel
theorem dX6_forget_4 : decode cX6_forget 4 = .ok (.iload_n 1, 1) := by decide +kernel
theorem dX6_forget_5 : decode cX6_forget 5 = .ok (.iconst 0, 1) := by decide +kernel
theorem dX6_forget_6 : decode cX6_forget 6 = .ok (.bastore, 1) := by decide +kernel
theorem dX6_forget_7 : decode cX6_forget 7 = .ok (.aload_n 0, 1) := by decide +kernel
theorem dX6_forget_8 : decode cX6_forget 8 = .ok (.dup, 1) := by decide +kernel
theorem dX6_forget_9 : decode cX6_forget 9 = .ok (.getfield 35, 3) := by decide +kernel
theorem dX6_forget_12 : decode cX6_forget 12 = .ok (.iconst 1, 1) := by decide +kernel
