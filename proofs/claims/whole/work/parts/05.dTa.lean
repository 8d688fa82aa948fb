theorem d_Ta_init_0 : decode m_Ta_init.2.1 0 = .ok (.aload_n 0, 1) := by decide +kernel
theorem d_Ta_init_1 : decode m_Ta_init.2.1 1 = .ok (.invokespecial 3, 3) := by decide +kernel
theorem d_Ta_init_4 : decode m_Ta_init.2.1 4 = .ok (.aload_n 0, 1) := by decide +kernel
theorem d_Ta_init_5 : decode m_Ta_init.2.1 5 = .ok (.bipush 30, 2) := by decide +kernel
theorem d_Ta_init_7 : decode m_Ta_init.2.1 7 = .ok (.newarray .int, 2) := by decide +kernel
theorem d_Ta_init_9 : decode m_Ta_init.2.1 9 = .ok (.putfield 9, 3) := by decide +kernel
theorem d_Ta_init_12 : decode m_Ta_init.2.1 12 = .ok (.aload_n 0, 1) := by decide +kernel
theorem d_Ta_init_13 : decode m_Ta_init.2.1 13 = .ok (.bipush 30, 2) := by decide +kernel
theorem d_Ta_init_15 : decode m_Ta_init.2.1 15 = .ok (.newarray .int, 2) := by decide +kernel
theorem d_Ta_init_17 : decode m_Ta_init.2.1 17 = .ok (.putfield 15, 3) := by decide +kernel
theorem d_Ta_init_20 : decode m_Ta_init.2.1 20 = .ok (.aload_n 0, 1) := by decide +kernel
theorem d_Ta_init_21 : decode m_Ta_init.2.1 21 = .ok (.bipush 30, 2) := by decide +kernel
theorem d_Ta_init_23 : decode m_Ta_init.2.1 23 = .ok (.newarray .int, 2) := by decide +kernel
theorem d_Ta_init_25 : decode m_Ta_init.2.1 25 = .ok (.putfield 18, 3) := by decide +kernel
theorem d_Ta_init_28 : decode m_Ta_init.2.1 28 = .ok (.aload_n 0, 1) := by decide +kernel
theorem d_Ta_init_29 : decode m_Ta_init.2.1 29 = .ok (.bipush 30, 2) := by decide +kernel
theorem d_Ta_init_31 : decode m_Ta_init.2.1 31 = .ok (.newarray .int, 2) := by decide +kernel
theorem d_Ta_init_33 : decode m_Ta_init.2.1 33 = .ok (.putfield 21, 3) := by decide +kernel
theorem d_Ta_init_36 : decode m_Ta_init.2.1 36 = .ok (.aload_n 0, 1) := by decide +kernel
theorem d_Ta_init_37 : decode m_Ta_init.2.1 37 = .ok (.bipush 30, 2) := by decide +kernel
theorem d_Ta_init_39 : decode m_Ta_init.2.1 39 = .ok (.newarray .int, 2) := by decide +kernel
theorem d_Ta_init_41 : decode m_Ta_init.2.1 41 = .ok (.putfield 24, 3) := by decide +kernel
theorem d_Ta_init_44 : decode m_Ta_init.2.1 44 = .ok (.aload_n 0, 1) := by decide +kernel
theorem d_Ta_init_45 : decode m_Ta_init.2.1 45 = .ok (.iconst 0, 1) := by decide +kernel
theorem d_Ta_init_46 : decode m_Ta_init.2.1 46 = .ok (.bipush 32, 2) := by decide +kernel
theorem d_Ta_init_48 : decode m_Ta_init.2.1 48 = .ok (.iconst 1, 1) := by decide +kernel
theorem d_Ta_init_49 : decode m_Ta_init.2.1 49 = .ok (.invokevirtual 27, 3) := by decide +kernel
theorem d_Ta_init_52 : decode m_Ta_init.2.1 52 = .ok (.aload_n 0, 1) := by decide +kernel
theorem d_Ta_init_53 : decode m_Ta_init.2.1 53 = .ok (.iconst 1, 1) := by decide +kernel
theorem d_Ta_init_54 : decode m_Ta_init.2.1 54 = .ok (.bipush 45, 2) := by decide +kernel
theorem d_Ta_init_56 : decode m_Ta_init.2.1 56 = .ok (.iconst 1, 1) := by decide +kernel
theorem d_Ta_init_57 : decode m_Ta_init.2.1 57 = .ok (.invokevirtual 27, 3) := by decide +kernel
theorem d_Ta_init_60 : decode m_Ta_init.2.1 60 = .ok (.iconst 0, 1) := by decide +kernel
theorem d_Ta_init_61 : decode m_Ta_init.2.1 61 = .ok (.istore_n 1, 1) := by decide +kernel
theorem d_Ta_init_62 : decode m_Ta_init.2.1 62 = .ok (.iload_n 1, 1) := by decide +kernel
theorem d_Ta_init_63 : decode m_Ta_init.2.1 63 = .ok (.bipush 8, 2) := by decide +kernel
theorem d_Ta_init_65 : decode m_Ta_init.2.1 65 = .ok (.if_icmp .ge 37, 3) := by decide +kernel
theorem d_Ta_init_68 : decode m_Ta_init.2.1 68 = .ok (.aload_n 0, 1) := by decide +kernel
theorem d_Ta_init_69 : decode m_Ta_init.2.1 69 = .ok (.iconst 2, 1) := by decide +kernel
theorem d_Ta_init_70 : decode m_Ta_init.2.1 70 = .ok (.iconst 2, 1) := by decide +kernel
theorem d_Ta_init_71 : decode m_Ta_init.2.1 71 = .ok (.iload_n 1, 1) := by decide +kernel
theorem d_Ta_init_72 : decode m_Ta_init.2.1 72 = .ok (.imul, 1) := by decide +kernel
theorem d_Ta_init_73 : decode m_Ta_init.2.1 73 = .ok (.iadd, 1) := by decide +kernel
theorem d_Ta_init_74 : decode m_Ta_init.2.1 74 = .ok (.bipush 97, 2) := by decide +kernel
theorem d_Ta_init_76 : decode m_Ta_init.2.1 76 = .ok (.iload_n 1, 1) := by decide +kernel
theorem d_Ta_init_77 : decode m_Ta_init.2.1 77 = .ok (.iadd, 1) := by decide +kernel
theorem d_Ta_init_78 : decode m_Ta_init.2.1 78 = .ok (.iconst 1, 1) := by decide +kernel
theorem d_Ta_init_79 : decode m_Ta_init.2.1 79 = .ok (.invokevirtual 27, 3) := by decide +kernel
theorem d_Ta_init_82 : decode m_Ta_init.2.1 82 = .ok (.aload_n 0, 1) := by decide +kernel
theorem d_Ta_init_83 : decode m_Ta_init.2.1 83 = .ok (.iconst 3, 1) := by decide +kernel
theorem d_Ta_init_84 : decode m_Ta_init.2.1 84 = .ok (.iconst 2, 1) := by decide +kernel
theorem d_Ta_init_85 : decode m_Ta_init.2.1 85 = .ok (.iload_n 1, 1) := by decide +kernel
theorem d_Ta_init_86 : decode m_Ta_init.2.1 86 = .ok (.imul, 1) := by decide +kernel
theorem d_Ta_init_87 : decode m_Ta_init.2.1 87 = .ok (.iadd, 1) := by decide +kernel
theorem d_Ta_init_88 : decode m_Ta_init.2.1 88 = .ok (.bipush 65, 2) := by decide +kernel
theorem d_Ta_init_90 : decode m_Ta_init.2.1 90 = .ok (.iload_n 1, 1) := by decide +kernel
theorem d_Ta_init_91 : decode m_Ta_init.2.1 91 = .ok (.iadd, 1) := by decide +kernel
theorem d_Ta_init_92 : decode m_Ta_init.2.1 92 = .ok (.iconst 3, 1) := by decide +kernel
theorem d_Ta_init_93 : decode m_Ta_init.2.1 93 = .ok (.invokevirtual 27, 3) := by decide +kernel
theorem d_Ta_init_96 : decode m_Ta_init.2.1 96 = .ok (.iinc 1 1, 3) := by decide +kernel
theorem d_Ta_init_99 : decode m_Ta_init.2.1 99 = .ok (.goto (-37), 3) := by decide +kernel
theorem d_Ta_init_102 : decode m_Ta_init.2.1 102 = .ok (.aload_n 0, 1) := by decide +kernel
theorem d_Ta_init_103 : decode m_Ta_init.2.1 103 = .ok (.invokevirtual 31, 3) := by decide +kernel
theorem d_Ta_init_106 : decode m_Ta_init.2.1 106 = .ok (.return_, 1) := by decide +kernel
theorem d_Ta_copyFrom_0 : decode m_Ta_copyFrom.2.1 0 = .ok (.aload_n 0, 1) := by decide +kernel
theorem d_Ta_copyFrom_1 : decode m_Ta_copyFrom.2.1 1 = .ok (.aload_n 1, 1) := by decide +kernel
theorem d_Ta_copyFrom_2 : decode m_Ta_copyFrom.2.1 2 = .ok (.getfield 34, 3) := by decide +kernel
theorem d_Ta_copyFrom_5 : decode m_Ta_copyFrom.2.1 5 = .ok (.putfield 34, 3) := by decide +kernel
theorem d_Ta_copyFrom_8 : decode m_Ta_copyFrom.2.1 8 = .ok (.aload_n 1, 1) := by decide +kernel
theorem d_Ta_copyFrom_9 : decode m_Ta_copyFrom.2.1 9 = .ok (.getfield 9, 3) := by decide +kernel
theorem d_Ta_copyFrom_12 : decode m_Ta_copyFrom.2.1 12 = .ok (.iconst 0, 1) := by decide +kernel
theorem d_Ta_copyFrom_13 : decode m_Ta_copyFrom.2.1 13 = .ok (.aload_n 0, 1) := by decide +kernel
theorem d_Ta_copyFrom_14 : decode m_Ta_copyFrom.2.1 14 = .ok (.getfield 9, 3) := by decide +kernel
theorem d_Ta_copyFrom_17 : decode m_Ta_copyFrom.2.1 17 = .ok (.iconst 0, 1) := by decide +kernel
theorem d_Ta_copyFrom_18 : decode m_Ta_copyFrom.2.1 18 = .ok (.bipush 30, 2) := by decide +kernel
theorem d_Ta_copyFrom_20 : decode m_Ta_copyFrom.2.1 20 = .ok (.invokestatic 38, 3) := by decide +kernel
theorem d_Ta_copyFrom_23 : decode m_Ta_copyFrom.2.1 23 = .ok (.aload_n 1, 1) := by decide +kernel
theorem d_Ta_copyFrom_24 : decode m_Ta_copyFrom.2.1 24 = .ok (.getfield 15, 3) := by decide +kernel
theorem d_Ta_copyFrom_27 : decode m_Ta_copyFrom.2.1 27 = .ok (.iconst 0, 1) := by decide +kernel
theorem d_Ta_copyFrom_28 : decode m_Ta_copyFrom.2.1 28 = .ok (.aload_n 0, 1) := by decide +kernel
theorem d_Ta_copyFrom_29 : decode m_Ta_copyFrom.2.1 29 = .ok (.getfield 15, 3) := by decide +kernel
theorem d_Ta_copyFrom_32 : decode m_Ta_copyFrom.2.1 32 = .ok (.iconst 0, 1) := by decide +kernel
theorem d_Ta_copyFrom_33 : decode m_Ta_copyFrom.2.1 33 = .ok (.bipush 30, 2) := by decide +kernel
theorem d_Ta_copyFrom_35 : decode m_Ta_copyFrom.2.1 35 = .ok (.invokestatic 38, 3) := by decide +kernel
theorem d_Ta_copyFrom_38 : decode m_Ta_copyFrom.2.1 38 = .ok (.aload_n 0, 1) := by decide +kernel
theorem d_Ta_copyFrom_39 : decode m_Ta_copyFrom.2.1 39 = .ok (.invokevirtual 31, 3) := by decide +kernel
theorem d_Ta_copyFrom_42 : decode m_Ta_copyFrom.2.1 42 = .ok (.return_, 1) := by decide +kernel
theorem d_Ta_find_0 : decode m_Ta_find.2.1 0 = .ok (.iconst 0, 1) := by decide +kernel
theorem d_Ta_find_1 : decode m_Ta_find.2.1 1 = .ok (.istore_n 2, 1) := by decide +kernel
theorem d_Ta_find_2 : decode m_Ta_find.2.1 2 = .ok (.iload_n 2, 1) := by decide +kernel
theorem d_Ta_find_3 : decode m_Ta_find.2.1 3 = .ok (.aload_n 0, 1) := by decide +kernel
theorem d_Ta_find_4 : decode m_Ta_find.2.1 4 = .ok (.getfield 34, 3) := by decide +kernel
theorem d_Ta_find_7 : decode m_Ta_find.2.1 7 = .ok (.if_icmp .ge 21, 3) := by decide +kernel
theorem d_Ta_find_10 : decode m_Ta_find.2.1 10 = .ok (.aload_n 0, 1) := by decide +kernel
theorem d_Ta_find_11 : decode m_Ta_find.2.1 11 = .ok (.getfield 9, 3) := by decide +kernel
theorem d_Ta_find_14 : decode m_Ta_find.2.1 14 = .ok (.iload_n 2, 1) := by decide +kernel
theorem d_Ta_find_15 : decode m_Ta_find.2.1 15 = .ok (.iaload, 1) := by decide +kernel
theorem d_Ta_find_16 : decode m_Ta_find.2.1 16 = .ok (.iload_n 1, 1) := by decide +kernel
theorem d_Ta_find_17 : decode m_Ta_find.2.1 17 = .ok (.if_icmp .ne 5, 3) := by decide +kernel
theorem d_Ta_find_20 : decode m_Ta_find.2.1 20 = .ok (.iload_n 2, 1) := by decide +kernel
theorem d_Ta_find_21 : decode m_Ta_find.2.1 21 = .ok (.ireturn, 1) := by decide +kernel
theorem d_Ta_find_22 : decode m_Ta_find.2.1 22 = .ok (.iinc 2 1, 3) := by decide +kernel
theorem d_Ta_find_25 : decode m_Ta_find.2.1 25 = .ok (.goto (-23), 3) := by decide +kernel
theorem d_Ta_find_28 : decode m_Ta_find.2.1 28 = .ok (.iconst (-1), 1) := by decide +kernel
theorem d_Ta_find_29 : decode m_Ta_find.2.1 29 = .ok (.ireturn, 1) := by decide +kernel
theorem d_Ta_findLongest_0 : decode m_Ta_findLongest.2.1 0 = .ok (.iconst 0, 1) := by decide +kernel
theorem d_Ta_findLongest_1 : decode m_Ta_findLongest.2.1 1 = .ok (.istore_n 2, 1) := by decide +kernel
theorem d_Ta_findLongest_2 : decode m_Ta_findLongest.2.1 2 = .ok (.iconst 0, 1) := by decide +kernel
theorem d_Ta_findLongest_3 : decode m_Ta_findLongest.2.1 3 = .ok (.istore_n 3, 1) := by decide +kernel
theorem d_Ta_findLongest_4 : decode m_Ta_findLongest.2.1 4 = .ok (.iconst 0, 1) := by decide +kernel
theorem d_Ta_findLongest_5 : decode m_Ta_findLongest.2.1 5 = .ok (.istore 4, 2) := by decide +kernel
theorem d_Ta_findLongest_7 : decode m_Ta_findLongest.2.1 7 = .ok (.iload 4, 2) := by decide +kernel
theorem d_Ta_findLongest_9 : decode m_Ta_findLongest.2.1 9 = .ok (.aload_n 0, 1) := by decide +kernel
theorem d_Ta_findLongest_10 : decode m_Ta_findLongest.2.1 10 = .ok (.getfield 34, 3) := by decide +kernel
theorem d_Ta_findLongest_13 : decode m_Ta_findLongest.2.1 13 = .ok (.if_icmp .ge 49, 3) := by decide +kernel
theorem d_Ta_findLongest_16 : decode m_Ta_findLongest.2.1 16 = .ok (.aload_n 0, 1) := by decide +kernel
theorem d_Ta_findLongest_17 : decode m_Ta_findLongest.2.1 17 = .ok (.getfield 9, 3) := by decide +kernel
theorem d_Ta_findLongest_20 : decode m_Ta_findLongest.2.1 20 = .ok (.iload 4, 2) := by decide +kernel
theorem d_Ta_findLongest_22 : decode m_Ta_findLongest.2.1 22 = .ok (.iaload, 1) := by decide +kernel
theorem d_Ta_findLongest_23 : decode m_Ta_findLongest.2.1 23 = .ok (.invokestatic 44, 3) := by decide +kernel
theorem d_Ta_findLongest_26 : decode m_Ta_findLongest.2.1 26 = .ok (.istore 5, 2) := by decide +kernel
theorem d_Ta_findLongest_28 : decode m_Ta_findLongest.2.1 28 = .ok (.iload 5, 2) := by decide +kernel
theorem d_Ta_findLongest_30 : decode m_Ta_findLongest.2.1 30 = .ok (.iload_n 3, 1) := by decide +kernel
theorem d_Ta_findLongest_31 : decode m_Ta_findLongest.2.1 31 = .ok (.if_icmp .le 25, 3) := by decide +kernel
theorem d_Ta_findLongest_34 : decode m_Ta_findLongest.2.1 34 = .ok (.iload_n 1, 1) := by decide +kernel
theorem d_Ta_findLongest_35 : decode m_Ta_findLongest.2.1 35 = .ok (.iload 5, 2) := by decide +kernel
theorem d_Ta_findLongest_37 : decode m_Ta_findLongest.2.1 37 = .ok (.invokestatic 48, 3) := by decide +kernel
theorem d_Ta_findLongest_40 : decode m_Ta_findLongest.2.1 40 = .ok (.aload_n 0, 1) := by decide +kernel
theorem d_Ta_findLongest_41 : decode m_Ta_findLongest.2.1 41 = .ok (.getfield 9, 3) := by decide +kernel
theorem d_Ta_findLongest_44 : decode m_Ta_findLongest.2.1 44 = .ok (.iload 4, 2) := by decide +kernel
theorem d_Ta_findLongest_46 : decode m_Ta_findLongest.2.1 46 = .ok (.iaload, 1) := by decide +kernel
theorem d_Ta_findLongest_47 : decode m_Ta_findLongest.2.1 47 = .ok (.if_icmp .ne 9, 3) := by decide +kernel
theorem d_Ta_findLongest_50 : decode m_Ta_findLongest.2.1 50 = .ok (.iload 4, 2) := by decide +kernel
theorem d_Ta_findLongest_52 : decode m_Ta_findLongest.2.1 52 = .ok (.istore_n 2, 1) := by decide +kernel
theorem d_Ta_findLongest_53 : decode m_Ta_findLongest.2.1 53 = .ok (.iload 5, 2) := by decide +kernel
theorem d_Ta_findLongest_55 : decode m_Ta_findLongest.2.1 55 = .ok (.istore_n 3, 1) := by decide +kernel
theorem d_Ta_findLongest_56 : decode m_Ta_findLongest.2.1 56 = .ok (.iinc 4 1, 3) := by decide +kernel
theorem d_Ta_findLongest_59 : decode m_Ta_findLongest.2.1 59 = .ok (.goto (-52), 3) := by decide +kernel
theorem d_Ta_findLongest_62 : decode m_Ta_findLongest.2.1 62 = .ok (.iload_n 2, 1) := by decide +kernel
theorem d_Ta_findLongest_63 : decode m_Ta_findLongest.2.1 63 = .ok (.ireturn, 1) := by decide +kernel
theorem d_Ta_follow_0 : decode m_Ta_follow.2.1 0 = .ok (.aload_n 0, 1) := by decide +kernel
theorem d_Ta_follow_1 : decode m_Ta_follow.2.1 1 = .ok (.aload_n 1, 1) := by decide +kernel
theorem d_Ta_follow_2 : decode m_Ta_follow.2.1 2 = .ok (.getfield 52, 3) := by decide +kernel
theorem d_Ta_follow_5 : decode m_Ta_follow.2.1 5 = .ok (.iconst 0, 1) := by decide +kernel
theorem d_Ta_follow_6 : decode m_Ta_follow.2.1 6 = .ok (.iaload, 1) := by decide +kernel
theorem d_Ta_follow_7 : decode m_Ta_follow.2.1 7 = .ok (.invokevirtual 55, 3) := by decide +kernel
theorem d_Ta_follow_10 : decode m_Ta_follow.2.1 10 = .ok (.iconst (-1), 1) := by decide +kernel
theorem d_Ta_follow_11 : decode m_Ta_follow.2.1 11 = .ok (.if_icmp .ne 6, 3) := by decide +kernel
theorem d_Ta_follow_14 : decode m_Ta_follow.2.1 14 = .ok (.bipush (-100), 2) := by decide +kernel
theorem d_Ta_follow_16 : decode m_Ta_follow.2.1 16 = .ok (.ireturn, 1) := by decide +kernel
theorem d_Ta_follow_17 : decode m_Ta_follow.2.1 17 = .ok (.iconst 1, 1) := by decide +kernel
theorem d_Ta_follow_18 : decode m_Ta_follow.2.1 18 = .ok (.istore_n 2, 1) := by decide +kernel
theorem d_Ta_follow_19 : decode m_Ta_follow.2.1 19 = .ok (.iload_n 2, 1) := by decide +kernel
theorem d_Ta_follow_20 : decode m_Ta_follow.2.1 20 = .ok (.aload_n 1, 1) := by decide +kernel
theorem d_Ta_follow_21 : decode m_Ta_follow.2.1 21 = .ok (.getfield 58, 3) := by decide +kernel
theorem d_Ta_follow_24 : decode m_Ta_follow.2.1 24 = .ok (.if_icmp .ge 40, 3) := by decide +kernel
theorem d_Ta_follow_27 : decode m_Ta_follow.2.1 27 = .ok (.aload_n 0, 1) := by decide +kernel
theorem d_Ta_follow_28 : decode m_Ta_follow.2.1 28 = .ok (.aload_n 1, 1) := by decide +kernel
theorem d_Ta_follow_29 : decode m_Ta_follow.2.1 29 = .ok (.getfield 52, 3) := by decide +kernel
theorem d_Ta_follow_32 : decode m_Ta_follow.2.1 32 = .ok (.iload_n 2, 1) := by decide +kernel
theorem d_Ta_follow_33 : decode m_Ta_follow.2.1 33 = .ok (.iaload, 1) := by decide +kernel
theorem d_Ta_follow_34 : decode m_Ta_follow.2.1 34 = .ok (.aload_n 1, 1) := by decide +kernel
theorem d_Ta_follow_35 : decode m_Ta_follow.2.1 35 = .ok (.getfield 52, 3) := by decide +kernel
theorem d_Ta_follow_38 : decode m_Ta_follow.2.1 38 = .ok (.iload_n 2, 1) := by decide +kernel
theorem d_Ta_follow_39 : decode m_Ta_follow.2.1 39 = .ok (.iconst 1, 1) := by decide +kernel
theorem d_Ta_follow_40 : decode m_Ta_follow.2.1 40 = .ok (.isub, 1) := by decide +kernel
theorem d_Ta_follow_41 : decode m_Ta_follow.2.1 41 = .ok (.iaload, 1) := by decide +kernel
theorem d_Ta_follow_42 : decode m_Ta_follow.2.1 42 = .ok (.aload_n 1, 1) := by decide +kernel
theorem d_Ta_follow_43 : decode m_Ta_follow.2.1 43 = .ok (.getfield 59, 3) := by decide +kernel
theorem d_Ta_follow_46 : decode m_Ta_follow.2.1 46 = .ok (.iload_n 2, 1) := by decide +kernel
theorem d_Ta_follow_47 : decode m_Ta_follow.2.1 47 = .ok (.iaload, 1) := by decide +kernel
theorem d_Ta_follow_48 : decode m_Ta_follow.2.1 48 = .ok (.invokevirtual 60, 3) := by decide +kernel
theorem d_Ta_follow_51 : decode m_Ta_follow.2.1 51 = .ok (.istore_n 3, 1) := by decide +kernel
theorem d_Ta_follow_52 : decode m_Ta_follow.2.1 52 = .ok (.iload_n 3, 1) := by decide +kernel
theorem d_Ta_follow_53 : decode m_Ta_follow.2.1 53 = .ok (.ifCond .eq 5, 3) := by decide +kernel
theorem d_Ta_follow_56 : decode m_Ta_follow.2.1 56 = .ok (.iload_n 3, 1) := by decide +kernel
theorem d_Ta_follow_57 : decode m_Ta_follow.2.1 57 = .ok (.ireturn, 1) := by decide +kernel
theorem d_Ta_follow_58 : decode m_Ta_follow.2.1 58 = .ok (.iinc 2 1, 3) := by decide +kernel
theorem d_Ta_follow_61 : decode m_Ta_follow.2.1 61 = .ok (.goto (-42), 3) := by decide +kernel
theorem d_Ta_follow_64 : decode m_Ta_follow.2.1 64 = .ok (.aload_n 0, 1) := by decide +kernel
theorem d_Ta_follow_65 : decode m_Ta_follow.2.1 65 = .ok (.getfield 34, 3) := by decide +kernel
theorem d_Ta_follow_68 : decode m_Ta_follow.2.1 68 = .ok (.ireturn, 1) := by decide +kernel
theorem d_Ta_move_0 : decode m_Ta_move.2.1 0 = .ok (.iload_n 1, 1) := by decide +kernel
theorem d_Ta_move_1 : decode m_Ta_move.2.1 1 = .ok (.iload_n 2, 1) := by decide +kernel
theorem d_Ta_move_2 : decode m_Ta_move.2.1 2 = .ok (.if_icmp .ne 6, 3) := by decide +kernel
theorem d_Ta_move_5 : decode m_Ta_move.2.1 5 = .ok (.bipush (-101), 2) := by decide +kernel
theorem d_Ta_move_7 : decode m_Ta_move.2.1 7 = .ok (.ireturn, 1) := by decide +kernel
theorem d_Ta_move_8 : decode m_Ta_move.2.1 8 = .ok (.aload_n 0, 1) := by decide +kernel
theorem d_Ta_move_9 : decode m_Ta_move.2.1 9 = .ok (.iload_n 1, 1) := by decide +kernel
theorem d_Ta_move_10 : decode m_Ta_move.2.1 10 = .ok (.invokevirtual 55, 3) := by decide +kernel
theorem d_Ta_move_13 : decode m_Ta_move.2.1 13 = .ok (.istore 4, 2) := by decide +kernel
theorem d_Ta_move_15 : decode m_Ta_move.2.1 15 = .ok (.iload 4, 2) := by decide +kernel
theorem d_Ta_move_17 : decode m_Ta_move.2.1 17 = .ok (.iconst (-1), 1) := by decide +kernel
theorem d_Ta_move_18 : decode m_Ta_move.2.1 18 = .ok (.if_icmp .eq 9, 3) := by decide +kernel
theorem d_Ta_move_21 : decode m_Ta_move.2.1 21 = .ok (.aload_n 0, 1) := by decide +kernel
theorem d_Ta_move_22 : decode m_Ta_move.2.1 22 = .ok (.iload 4, 2) := by decide +kernel
theorem d_Ta_move_24 : decode m_Ta_move.2.1 24 = .ok (.invokevirtual 64, 3) := by decide +kernel
theorem d_Ta_move_27 : decode m_Ta_move.2.1 27 = .ok (.aload_n 0, 1) := by decide +kernel
theorem d_Ta_move_28 : decode m_Ta_move.2.1 28 = .ok (.getfield 34, 3) := by decide +kernel
theorem d_Ta_move_31 : decode m_Ta_move.2.1 31 = .ok (.bipush 30, 2) := by decide +kernel
theorem d_Ta_move_33 : decode m_Ta_move.2.1 33 = .ok (.if_icmp .lt 6, 3) := by decide +kernel
theorem d_Ta_move_36 : decode m_Ta_move.2.1 36 = .ok (.bipush (-102), 2) := by decide +kernel
theorem d_Ta_move_38 : decode m_Ta_move.2.1 38 = .ok (.ireturn, 1) := by decide +kernel
theorem d_Ta_move_39 : decode m_Ta_move.2.1 39 = .ok (.aload_n 0, 1) := by decide +kernel
theorem d_Ta_move_40 : decode m_Ta_move.2.1 40 = .ok (.iload_n 1, 1) := by decide +kernel
theorem d_Ta_move_41 : decode m_Ta_move.2.1 41 = .ok (.iload_n 3, 1) := by decide +kernel
theorem d_Ta_move_42 : decode m_Ta_move.2.1 42 = .ok (.aload_n 0, 1) := by decide +kernel
theorem d_Ta_move_43 : decode m_Ta_move.2.1 43 = .ok (.iload_n 2, 1) := by decide +kernel
theorem d_Ta_move_44 : decode m_Ta_move.2.1 44 = .ok (.invokevirtual 55, 3) := by decide +kernel
theorem d_Ta_move_47 : decode m_Ta_move.2.1 47 = .ok (.invokevirtual 68, 3) := by decide +kernel
theorem d_Ta_move_50 : decode m_Ta_move.2.1 50 = .ok (.iconst 0, 1) := by decide +kernel
theorem d_Ta_move_51 : decode m_Ta_move.2.1 51 = .ok (.ireturn, 1) := by decide +kernel
theorem d_Ta_takeOut_0 : decode m_Ta_takeOut.2.1 0 = .ok (.iload_n 1, 1) := by decide +kernel
theorem d_Ta_takeOut_1 : decode m_Ta_takeOut.2.1 1 = .ok (.iconst 1, 1) := by decide +kernel
theorem d_Ta_takeOut_2 : decode m_Ta_takeOut.2.1 2 = .ok (.iadd, 1) := by decide +kernel
theorem d_Ta_takeOut_3 : decode m_Ta_takeOut.2.1 3 = .ok (.aload_n 0, 1) := by decide +kernel
theorem d_Ta_takeOut_4 : decode m_Ta_takeOut.2.1 4 = .ok (.getfield 34, 3) := by decide +kernel
theorem d_Ta_takeOut_7 : decode m_Ta_takeOut.2.1 7 = .ok (.if_icmp .ge 28, 3) := by decide +kernel
theorem d_Ta_takeOut_10 : decode m_Ta_takeOut.2.1 10 = .ok (.aload_n 0, 1) := by decide +kernel
theorem d_Ta_takeOut_11 : decode m_Ta_takeOut.2.1 11 = .ok (.getfield 15, 3) := by decide +kernel
theorem d_Ta_takeOut_14 : decode m_Ta_takeOut.2.1 14 = .ok (.iload_n 1, 1) := by decide +kernel
theorem d_Ta_takeOut_15 : decode m_Ta_takeOut.2.1 15 = .ok (.iconst 1, 1) := by decide +kernel
theorem d_Ta_takeOut_16 : decode m_Ta_takeOut.2.1 16 = .ok (.iadd, 1) := by decide +kernel
theorem d_Ta_takeOut_17 : decode m_Ta_takeOut.2.1 17 = .ok (.aload_n 0, 1) := by decide +kernel
theorem d_Ta_takeOut_18 : decode m_Ta_takeOut.2.1 18 = .ok (.getfield 15, 3) := by decide +kernel
theorem d_Ta_takeOut_21 : decode m_Ta_takeOut.2.1 21 = .ok (.iload_n 1, 1) := by decide +kernel
theorem d_Ta_takeOut_22 : decode m_Ta_takeOut.2.1 22 = .ok (.iaload, 1) := by decide +kernel
theorem d_Ta_takeOut_23 : decode m_Ta_takeOut.2.1 23 = .ok (.aload_n 0, 1) := by decide +kernel
theorem d_Ta_takeOut_24 : decode m_Ta_takeOut.2.1 24 = .ok (.getfield 15, 3) := by decide +kernel
theorem d_Ta_takeOut_27 : decode m_Ta_takeOut.2.1 27 = .ok (.iload_n 1, 1) := by decide +kernel
theorem d_Ta_takeOut_28 : decode m_Ta_takeOut.2.1 28 = .ok (.iconst 1, 1) := by decide +kernel
theorem d_Ta_takeOut_29 : decode m_Ta_takeOut.2.1 29 = .ok (.iadd, 1) := by decide +kernel
theorem d_Ta_takeOut_30 : decode m_Ta_takeOut.2.1 30 = .ok (.iaload, 1) := by decide +kernel
theorem d_Ta_takeOut_31 : decode m_Ta_takeOut.2.1 31 = .ok (.invokestatic 71, 3) := by decide +kernel
theorem d_Ta_takeOut_34 : decode m_Ta_takeOut.2.1 34 = .ok (.iastore, 1) := by decide +kernel
theorem d_Ta_takeOut_35 : decode m_Ta_takeOut.2.1 35 = .ok (.iload_n 1, 1) := by decide +kernel
theorem d_Ta_takeOut_36 : decode m_Ta_takeOut.2.1 36 = .ok (.iconst 1, 1) := by decide +kernel
theorem d_Ta_takeOut_37 : decode m_Ta_takeOut.2.1 37 = .ok (.iadd, 1) := by decide +kernel
theorem d_Ta_takeOut_38 : decode m_Ta_takeOut.2.1 38 = .ok (.istore_n 2, 1) := by decide +kernel
theorem d_Ta_takeOut_39 : decode m_Ta_takeOut.2.1 39 = .ok (.iload_n 2, 1) := by decide +kernel
theorem d_Ta_takeOut_40 : decode m_Ta_takeOut.2.1 40 = .ok (.aload_n 0, 1) := by decide +kernel
theorem d_Ta_takeOut_41 : decode m_Ta_takeOut.2.1 41 = .ok (.getfield 34, 3) := by decide +kernel
theorem d_Ta_takeOut_44 : decode m_Ta_takeOut.2.1 44 = .ok (.if_icmp .ge 37, 3) := by decide +kernel
theorem d_Ta_takeOut_47 : decode m_Ta_takeOut.2.1 47 = .ok (.aload_n 0, 1) := by decide +kernel
theorem d_Ta_takeOut_48 : decode m_Ta_takeOut.2.1 48 = .ok (.getfield 9, 3) := by decide +kernel
theorem d_Ta_takeOut_51 : decode m_Ta_takeOut.2.1 51 = .ok (.iload_n 2, 1) := by decide +kernel
theorem d_Ta_takeOut_52 : decode m_Ta_takeOut.2.1 52 = .ok (.iconst 1, 1) := by decide +kernel
theorem d_Ta_takeOut_53 : decode m_Ta_takeOut.2.1 53 = .ok (.isub, 1) := by decide +kernel
theorem d_Ta_takeOut_54 : decode m_Ta_takeOut.2.1 54 = .ok (.aload_n 0, 1) := by decide +kernel
theorem d_Ta_takeOut_55 : decode m_Ta_takeOut.2.1 55 = .ok (.getfield 9, 3) := by decide +kernel
theorem d_Ta_takeOut_58 : decode m_Ta_takeOut.2.1 58 = .ok (.iload_n 2, 1) := by decide +kernel
theorem d_Ta_takeOut_59 : decode m_Ta_takeOut.2.1 59 = .ok (.iaload, 1) := by decide +kernel
theorem d_Ta_takeOut_60 : decode m_Ta_takeOut.2.1 60 = .ok (.iastore, 1) := by decide +kernel
theorem d_Ta_takeOut_61 : decode m_Ta_takeOut.2.1 61 = .ok (.aload_n 0, 1) := by decide +kernel
theorem d_Ta_takeOut_62 : decode m_Ta_takeOut.2.1 62 = .ok (.getfield 15, 3) := by decide +kernel
theorem d_Ta_takeOut_65 : decode m_Ta_takeOut.2.1 65 = .ok (.iload_n 2, 1) := by decide +kernel
theorem d_Ta_takeOut_66 : decode m_Ta_takeOut.2.1 66 = .ok (.iconst 1, 1) := by decide +kernel
theorem d_Ta_takeOut_67 : decode m_Ta_takeOut.2.1 67 = .ok (.isub, 1) := by decide +kernel
theorem d_Ta_takeOut_68 : decode m_Ta_takeOut.2.1 68 = .ok (.aload_n 0, 1) := by decide +kernel
theorem d_Ta_takeOut_69 : decode m_Ta_takeOut.2.1 69 = .ok (.getfield 15, 3) := by decide +kernel
theorem d_Ta_takeOut_72 : decode m_Ta_takeOut.2.1 72 = .ok (.iload_n 2, 1) := by decide +kernel
theorem d_Ta_takeOut_73 : decode m_Ta_takeOut.2.1 73 = .ok (.iaload, 1) := by decide +kernel
theorem d_Ta_takeOut_74 : decode m_Ta_takeOut.2.1 74 = .ok (.iastore, 1) := by decide +kernel
theorem d_Ta_takeOut_75 : decode m_Ta_takeOut.2.1 75 = .ok (.iinc 2 1, 3) := by decide +kernel
theorem d_Ta_takeOut_78 : decode m_Ta_takeOut.2.1 78 = .ok (.goto (-39), 3) := by decide +kernel
theorem d_Ta_takeOut_81 : decode m_Ta_takeOut.2.1 81 = .ok (.aload_n 0, 1) := by decide +kernel
theorem d_Ta_takeOut_82 : decode m_Ta_takeOut.2.1 82 = .ok (.dup, 1) := by decide +kernel
theorem d_Ta_takeOut_83 : decode m_Ta_takeOut.2.1 83 = .ok (.getfield 34, 3) := by decide +kernel
theorem d_Ta_takeOut_86 : decode m_Ta_takeOut.2.1 86 = .ok (.iconst 1, 1) := by decide +kernel
theorem d_Ta_takeOut_87 : decode m_Ta_takeOut.2.1 87 = .ok (.isub, 1) := by decide +kernel
theorem d_Ta_takeOut_88 : decode m_Ta_takeOut.2.1 88 = .ok (.putfield 34, 3) := by decide +kernel
theorem d_Ta_takeOut_91 : decode m_Ta_takeOut.2.1 91 = .ok (.return_, 1) := by decide +kernel
theorem d_Ta_putIn_0 : decode m_Ta_putIn.2.1 0 = .ok (.iload_n 3, 1) := by decide +kernel
theorem d_Ta_putIn_1 : decode m_Ta_putIn.2.1 1 = .ok (.iconst 1, 1) := by decide +kernel
theorem d_Ta_putIn_2 : decode m_Ta_putIn.2.1 2 = .ok (.iadd, 1) := by decide +kernel
theorem d_Ta_putIn_3 : decode m_Ta_putIn.2.1 3 = .ok (.istore 4, 2) := by decide +kernel
theorem d_Ta_putIn_5 : decode m_Ta_putIn.2.1 5 = .ok (.iload 4, 2) := by decide +kernel
theorem d_Ta_putIn_7 : decode m_Ta_putIn.2.1 7 = .ok (.aload_n 0, 1) := by decide +kernel
theorem d_Ta_putIn_8 : decode m_Ta_putIn.2.1 8 = .ok (.getfield 34, 3) := by decide +kernel
theorem d_Ta_putIn_11 : decode m_Ta_putIn.2.1 11 = .ok (.if_icmp .ge 20, 3) := by decide +kernel
theorem d_Ta_putIn_14 : decode m_Ta_putIn.2.1 14 = .ok (.aload_n 0, 1) := by decide +kernel
theorem d_Ta_putIn_15 : decode m_Ta_putIn.2.1 15 = .ok (.getfield 15, 3) := by decide +kernel
theorem d_Ta_putIn_18 : decode m_Ta_putIn.2.1 18 = .ok (.iload 4, 2) := by decide +kernel
theorem d_Ta_putIn_20 : decode m_Ta_putIn.2.1 20 = .ok (.iaload, 1) := by decide +kernel
theorem d_Ta_putIn_21 : decode m_Ta_putIn.2.1 21 = .ok (.iload_n 2, 1) := by decide +kernel
theorem d_Ta_putIn_22 : decode m_Ta_putIn.2.1 22 = .ok (.if_icmp .le 9, 3) := by decide +kernel
theorem d_Ta_putIn_25 : decode m_Ta_putIn.2.1 25 = .ok (.iinc 4 1, 3) := by decide +kernel
theorem d_Ta_putIn_28 : decode m_Ta_putIn.2.1 28 = .ok (.goto (-23), 3) := by decide +kernel
theorem d_Ta_putIn_31 : decode m_Ta_putIn.2.1 31 = .ok (.aload_n 0, 1) := by decide +kernel
theorem d_Ta_putIn_32 : decode m_Ta_putIn.2.1 32 = .ok (.iload 4, 2) := by decide +kernel
theorem d_Ta_putIn_34 : decode m_Ta_putIn.2.1 34 = .ok (.iload_n 1, 1) := by decide +kernel
theorem d_Ta_putIn_35 : decode m_Ta_putIn.2.1 35 = .ok (.iload_n 2, 1) := by decide +kernel
theorem d_Ta_putIn_36 : decode m_Ta_putIn.2.1 36 = .ok (.invokevirtual 27, 3) := by decide +kernel
theorem d_Ta_putIn_39 : decode m_Ta_putIn.2.1 39 = .ok (.return_, 1) := by decide +kernel
theorem d_Ta_insert_0 : decode m_Ta_insert.2.1 0 = .ok (.aload_n 0, 1) := by decide +kernel
theorem d_Ta_insert_1 : decode m_Ta_insert.2.1 1 = .ok (.getfield 34, 3) := by decide +kernel
theorem d_Ta_insert_4 : decode m_Ta_insert.2.1 4 = .ok (.istore 4, 2) := by decide +kernel
theorem d_Ta_insert_6 : decode m_Ta_insert.2.1 6 = .ok (.iload 4, 2) := by decide +kernel
theorem d_Ta_insert_8 : decode m_Ta_insert.2.1 8 = .ok (.iload_n 1, 1) := by decide +kernel
theorem d_Ta_insert_9 : decode m_Ta_insert.2.1 9 = .ok (.if_icmp .le 41, 3) := by decide +kernel
theorem d_Ta_insert_12 : decode m_Ta_insert.2.1 12 = .ok (.aload_n 0, 1) := by decide +kernel
theorem d_Ta_insert_13 : decode m_Ta_insert.2.1 13 = .ok (.getfield 9, 3) := by decide +kernel
theorem d_Ta_insert_16 : decode m_Ta_insert.2.1 16 = .ok (.iload 4, 2) := by decide +kernel
theorem d_Ta_insert_18 : decode m_Ta_insert.2.1 18 = .ok (.aload_n 0, 1) := by decide +kernel
theorem d_Ta_insert_19 : decode m_Ta_insert.2.1 19 = .ok (.getfield 9, 3) := by decide +kernel
theorem d_Ta_insert_22 : decode m_Ta_insert.2.1 22 = .ok (.iload 4, 2) := by decide +kernel
theorem d_Ta_insert_24 : decode m_Ta_insert.2.1 24 = .ok (.iconst 1, 1) := by decide +kernel
theorem d_Ta_insert_25 : decode m_Ta_insert.2.1 25 = .ok (.isub, 1) := by decide +kernel
theorem d_Ta_insert_26 : decode m_Ta_insert.2.1 26 = .ok (.iaload, 1) := by decide +kernel
theorem d_Ta_insert_27 : decode m_Ta_insert.2.1 27 = .ok (.iastore, 1) := by decide +kernel
theorem d_Ta_insert_28 : decode m_Ta_insert.2.1 28 = .ok (.aload_n 0, 1) := by decide +kernel
theorem d_Ta_insert_29 : decode m_Ta_insert.2.1 29 = .ok (.getfield 15, 3) := by decide +kernel
theorem d_Ta_insert_32 : decode m_Ta_insert.2.1 32 = .ok (.iload 4, 2) := by decide +kernel
theorem d_Ta_insert_34 : decode m_Ta_insert.2.1 34 = .ok (.aload_n 0, 1) := by decide +kernel
theorem d_Ta_insert_35 : decode m_Ta_insert.2.1 35 = .ok (.getfield 15, 3) := by decide +kernel
theorem d_Ta_insert_38 : decode m_Ta_insert.2.1 38 = .ok (.iload 4, 2) := by decide +kernel
theorem d_Ta_insert_40 : decode m_Ta_insert.2.1 40 = .ok (.iconst 1, 1) := by decide +kernel
theorem d_Ta_insert_41 : decode m_Ta_insert.2.1 41 = .ok (.isub, 1) := by decide +kernel
theorem d_Ta_insert_42 : decode m_Ta_insert.2.1 42 = .ok (.iaload, 1) := by decide +kernel
theorem d_Ta_insert_43 : decode m_Ta_insert.2.1 43 = .ok (.iastore, 1) := by decide +kernel
theorem d_Ta_insert_44 : decode m_Ta_insert.2.1 44 = .ok (.iinc 4 (-1), 3) := by decide +kernel
theorem d_Ta_insert_47 : decode m_Ta_insert.2.1 47 = .ok (.goto (-41), 3) := by decide +kernel
theorem d_Ta_insert_50 : decode m_Ta_insert.2.1 50 = .ok (.aload_n 0, 1) := by decide +kernel
theorem d_Ta_insert_51 : decode m_Ta_insert.2.1 51 = .ok (.getfield 9, 3) := by decide +kernel
theorem d_Ta_insert_54 : decode m_Ta_insert.2.1 54 = .ok (.iload_n 1, 1) := by decide +kernel
theorem d_Ta_insert_55 : decode m_Ta_insert.2.1 55 = .ok (.iload_n 2, 1) := by decide +kernel
theorem d_Ta_insert_56 : decode m_Ta_insert.2.1 56 = .ok (.iastore, 1) := by decide +kernel
theorem d_Ta_insert_57 : decode m_Ta_insert.2.1 57 = .ok (.aload_n 0, 1) := by decide +kernel
theorem d_Ta_insert_58 : decode m_Ta_insert.2.1 58 = .ok (.getfield 15, 3) := by decide +kernel
theorem d_Ta_insert_61 : decode m_Ta_insert.2.1 61 = .ok (.iload_n 1, 1) := by decide +kernel
theorem d_Ta_insert_62 : decode m_Ta_insert.2.1 62 = .ok (.iload_n 3, 1) := by decide +kernel
theorem d_Ta_insert_63 : decode m_Ta_insert.2.1 63 = .ok (.iastore, 1) := by decide +kernel
theorem d_Ta_insert_64 : decode m_Ta_insert.2.1 64 = .ok (.aload_n 0, 1) := by decide +kernel
theorem d_Ta_insert_65 : decode m_Ta_insert.2.1 65 = .ok (.dup, 1) := by decide +kernel
theorem d_Ta_insert_66 : decode m_Ta_insert.2.1 66 = .ok (.getfield 34, 3) := by decide +kernel
theorem d_Ta_insert_69 : decode m_Ta_insert.2.1 69 = .ok (.iconst 1, 1) := by decide +kernel
theorem d_Ta_insert_70 : decode m_Ta_insert.2.1 70 = .ok (.iadd, 1) := by decide +kernel
theorem d_Ta_insert_71 : decode m_Ta_insert.2.1 71 = .ok (.putfield 34, 3) := by decide +kernel
theorem d_Ta_insert_74 : decode m_Ta_insert.2.1 74 = .ok (.return_, 1) := by decide +kernel
theorem d_Ta_weigh_0 : decode m_Ta_weigh.2.1 0 = .ok (.iconst 0, 1) := by decide +kernel
theorem d_Ta_weigh_1 : decode m_Ta_weigh.2.1 1 = .ok (.istore_n 1, 1) := by decide +kernel
theorem d_Ta_weigh_2 : decode m_Ta_weigh.2.1 2 = .ok (.iconst 1, 1) := by decide +kernel
theorem d_Ta_weigh_3 : decode m_Ta_weigh.2.1 3 = .ok (.istore_n 2, 1) := by decide +kernel
theorem d_Ta_weigh_4 : decode m_Ta_weigh.2.1 4 = .ok (.iconst 1, 1) := by decide +kernel
theorem d_Ta_weigh_5 : decode m_Ta_weigh.2.1 5 = .ok (.istore_n 3, 1) := by decide +kernel
theorem d_Ta_weigh_6 : decode m_Ta_weigh.2.1 6 = .ok (.iconst 0, 1) := by decide +kernel
theorem d_Ta_weigh_7 : decode m_Ta_weigh.2.1 7 = .ok (.istore 4, 2) := by decide +kernel
theorem d_Ta_weigh_9 : decode m_Ta_weigh.2.1 9 = .ok (.iload 4, 2) := by decide +kernel
theorem d_Ta_weigh_11 : decode m_Ta_weigh.2.1 11 = .ok (.aload_n 0, 1) := by decide +kernel
theorem d_Ta_weigh_12 : decode m_Ta_weigh.2.1 12 = .ok (.getfield 34, 3) := by decide +kernel
theorem d_Ta_weigh_15 : decode m_Ta_weigh.2.1 15 = .ok (.if_icmp .ge 87, 3) := by decide +kernel
theorem d_Ta_weigh_18 : decode m_Ta_weigh.2.1 18 = .ok (.aload_n 0, 1) := by decide +kernel
theorem d_Ta_weigh_19 : decode m_Ta_weigh.2.1 19 = .ok (.getfield 15, 3) := by decide +kernel
theorem d_Ta_weigh_22 : decode m_Ta_weigh.2.1 22 = .ok (.iload 4, 2) := by decide +kernel
theorem d_Ta_weigh_24 : decode m_Ta_weigh.2.1 24 = .ok (.iaload, 1) := by decide +kernel
theorem d_Ta_weigh_25 : decode m_Ta_weigh.2.1 25 = .ok (.iconst 1, 1) := by decide +kernel
theorem d_Ta_weigh_26 : decode m_Ta_weigh.2.1 26 = .ok (.if_icmp .ne 13, 3) := by decide +kernel
theorem d_Ta_weigh_29 : decode m_Ta_weigh.2.1 29 = .ok (.iinc 1 1, 3) := by decide +kernel
theorem d_Ta_weigh_32 : decode m_Ta_weigh.2.1 32 = .ok (.iconst 1, 1) := by decide +kernel
theorem d_Ta_weigh_33 : decode m_Ta_weigh.2.1 33 = .ok (.istore_n 2, 1) := by decide +kernel
theorem d_Ta_weigh_34 : decode m_Ta_weigh.2.1 34 = .ok (.iconst 1, 1) := by decide +kernel
theorem d_Ta_weigh_35 : decode m_Ta_weigh.2.1 35 = .ok (.istore_n 3, 1) := by decide +kernel
theorem d_Ta_weigh_36 : decode m_Ta_weigh.2.1 36 = .ok (.goto 36, 3) := by decide +kernel
theorem d_Ta_weigh_39 : decode m_Ta_weigh.2.1 39 = .ok (.aload_n 0, 1) := by decide +kernel
theorem d_Ta_weigh_40 : decode m_Ta_weigh.2.1 40 = .ok (.getfield 15, 3) := by decide +kernel
theorem d_Ta_weigh_43 : decode m_Ta_weigh.2.1 43 = .ok (.iload 4, 2) := by decide +kernel
theorem d_Ta_weigh_45 : decode m_Ta_weigh.2.1 45 = .ok (.iaload, 1) := by decide +kernel
theorem d_Ta_weigh_46 : decode m_Ta_weigh.2.1 46 = .ok (.iconst 2, 1) := by decide +kernel
theorem d_Ta_weigh_47 : decode m_Ta_weigh.2.1 47 = .ok (.if_icmp .ne 11, 3) := by decide +kernel
theorem d_Ta_weigh_50 : decode m_Ta_weigh.2.1 50 = .ok (.iinc 2 1, 3) := by decide +kernel
theorem d_Ta_weigh_53 : decode m_Ta_weigh.2.1 53 = .ok (.iconst 1, 1) := by decide +kernel
theorem d_Ta_weigh_54 : decode m_Ta_weigh.2.1 54 = .ok (.istore_n 3, 1) := by decide +kernel
theorem d_Ta_weigh_55 : decode m_Ta_weigh.2.1 55 = .ok (.goto 17, 3) := by decide +kernel
theorem d_Ta_weigh_58 : decode m_Ta_weigh.2.1 58 = .ok (.aload_n 0, 1) := by decide +kernel
theorem d_Ta_weigh_59 : decode m_Ta_weigh.2.1 59 = .ok (.getfield 15, 3) := by decide +kernel
theorem d_Ta_weigh_62 : decode m_Ta_weigh.2.1 62 = .ok (.iload 4, 2) := by decide +kernel
theorem d_Ta_weigh_64 : decode m_Ta_weigh.2.1 64 = .ok (.iaload, 1) := by decide +kernel
theorem d_Ta_weigh_65 : decode m_Ta_weigh.2.1 65 = .ok (.iconst 3, 1) := by decide +kernel
theorem d_Ta_weigh_66 : decode m_Ta_weigh.2.1 66 = .ok (.if_icmp .ne 6, 3) := by decide +kernel
theorem d_Ta_weigh_69 : decode m_Ta_weigh.2.1 69 = .ok (.iinc 3 1, 3) := by decide +kernel
theorem d_Ta_weigh_72 : decode m_Ta_weigh.2.1 72 = .ok (.aload_n 0, 1) := by decide +kernel
theorem d_Ta_weigh_73 : decode m_Ta_weigh.2.1 73 = .ok (.getfield 18, 3) := by decide +kernel
theorem d_Ta_weigh_76 : decode m_Ta_weigh.2.1 76 = .ok (.iload 4, 2) := by decide +kernel
theorem d_Ta_weigh_78 : decode m_Ta_weigh.2.1 78 = .ok (.iload_n 1, 1) := by decide +kernel
theorem d_Ta_weigh_79 : decode m_Ta_weigh.2.1 79 = .ok (.iastore, 1) := by decide +kernel
theorem d_Ta_weigh_80 : decode m_Ta_weigh.2.1 80 = .ok (.aload_n 0, 1) := by decide +kernel
theorem d_Ta_weigh_81 : decode m_Ta_weigh.2.1 81 = .ok (.getfield 21, 3) := by decide +kernel
theorem d_Ta_weigh_84 : decode m_Ta_weigh.2.1 84 = .ok (.iload 4, 2) := by decide +kernel
theorem d_Ta_weigh_86 : decode m_Ta_weigh.2.1 86 = .ok (.iload_n 2, 1) := by decide +kernel
theorem d_Ta_weigh_87 : decode m_Ta_weigh.2.1 87 = .ok (.iastore, 1) := by decide +kernel
theorem d_Ta_weigh_88 : decode m_Ta_weigh.2.1 88 = .ok (.aload_n 0, 1) := by decide +kernel
theorem d_Ta_weigh_89 : decode m_Ta_weigh.2.1 89 = .ok (.getfield 24, 3) := by decide +kernel
theorem d_Ta_weigh_92 : decode m_Ta_weigh.2.1 92 = .ok (.iload 4, 2) := by decide +kernel
theorem d_Ta_weigh_94 : decode m_Ta_weigh.2.1 94 = .ok (.iload_n 3, 1) := by decide +kernel
theorem d_Ta_weigh_95 : decode m_Ta_weigh.2.1 95 = .ok (.iastore, 1) := by decide +kernel
theorem d_Ta_weigh_96 : decode m_Ta_weigh.2.1 96 = .ok (.iinc 4 1, 3) := by decide +kernel
theorem d_Ta_weigh_99 : decode m_Ta_weigh.2.1 99 = .ok (.goto (-90), 3) := by decide +kernel
theorem d_Ta_weigh_102 : decode m_Ta_weigh.2.1 102 = .ok (.return_, 1) := by decide +kernel
