theorem d_To_init_0 : decode m_To_init.2.1 0 = .ok (.aload_n 0, 1) := by decide +kernel
theorem d_To_init_1 : decode m_To_init.2.1 1 = .ok (.invokespecial 1, 3) := by decide +kernel
theorem d_To_init_4 : decode m_To_init.2.1 4 = .ok (.aload_n 0, 1) := by decide +kernel
theorem d_To_init_5 : decode m_To_init.2.1 5 = .ok (.iconst 3, 1) := by decide +kernel
theorem d_To_init_6 : decode m_To_init.2.1 6 = .ok (.anewarray 9, 3) := by decide +kernel
theorem d_To_init_9 : decode m_To_init.2.1 9 = .ok (.putfield 11, 3) := by decide +kernel
theorem d_To_init_12 : decode m_To_init.2.1 12 = .ok (.aload_n 0, 1) := by decide +kernel
theorem d_To_init_13 : decode m_To_init.2.1 13 = .ok (.iconst 2, 1) := by decide +kernel
theorem d_To_init_14 : decode m_To_init.2.1 14 = .ok (.anewarray 15, 3) := by decide +kernel
theorem d_To_init_17 : decode m_To_init.2.1 17 = .ok (.putfield 17, 3) := by decide +kernel
theorem d_To_init_20 : decode m_To_init.2.1 20 = .ok (.iconst 0, 1) := by decide +kernel
theorem d_To_init_21 : decode m_To_init.2.1 21 = .ok (.istore_n 1, 1) := by decide +kernel
theorem d_To_init_22 : decode m_To_init.2.1 22 = .ok (.iload_n 1, 1) := by decide +kernel
theorem d_To_init_23 : decode m_To_init.2.1 23 = .ok (.iconst 2, 1) := by decide +kernel
theorem d_To_init_24 : decode m_To_init.2.1 24 = .ok (.if_icmp .ge 37, 3) := by decide +kernel
theorem d_To_init_27 : decode m_To_init.2.1 27 = .ok (.aload_n 0, 1) := by decide +kernel
theorem d_To_init_28 : decode m_To_init.2.1 28 = .ok (.getfield 11, 3) := by decide +kernel
theorem d_To_init_31 : decode m_To_init.2.1 31 = .ok (.iload_n 1, 1) := by decide +kernel
theorem d_To_init_32 : decode m_To_init.2.1 32 = .ok (.new 9, 3) := by decide +kernel
theorem d_To_init_35 : decode m_To_init.2.1 35 = .ok (.dup, 1) := by decide +kernel
theorem d_To_init_36 : decode m_To_init.2.1 36 = .ok (.bipush 12, 2) := by decide +kernel
theorem d_To_init_38 : decode m_To_init.2.1 38 = .ok (.invokespecial 21, 3) := by decide +kernel
theorem d_To_init_41 : decode m_To_init.2.1 41 = .ok (.aastore, 1) := by decide +kernel
theorem d_To_init_42 : decode m_To_init.2.1 42 = .ok (.aload_n 0, 1) := by decide +kernel
theorem d_To_init_43 : decode m_To_init.2.1 43 = .ok (.getfield 17, 3) := by decide +kernel
theorem d_To_init_46 : decode m_To_init.2.1 46 = .ok (.iload_n 1, 1) := by decide +kernel
theorem d_To_init_47 : decode m_To_init.2.1 47 = .ok (.new 15, 3) := by decide +kernel
theorem d_To_init_50 : decode m_To_init.2.1 50 = .ok (.dup, 1) := by decide +kernel
theorem d_To_init_51 : decode m_To_init.2.1 51 = .ok (.invokespecial 24, 3) := by decide +kernel
theorem d_To_init_54 : decode m_To_init.2.1 54 = .ok (.aastore, 1) := by decide +kernel
theorem d_To_init_55 : decode m_To_init.2.1 55 = .ok (.iinc 1 1, 3) := by decide +kernel
theorem d_To_init_58 : decode m_To_init.2.1 58 = .ok (.goto (-36), 3) := by decide +kernel
theorem d_To_init_61 : decode m_To_init.2.1 61 = .ok (.aload_n 0, 1) := by decide +kernel
theorem d_To_init_62 : decode m_To_init.2.1 62 = .ok (.getfield 11, 3) := by decide +kernel
theorem d_To_init_65 : decode m_To_init.2.1 65 = .ok (.iconst 2, 1) := by decide +kernel
theorem d_To_init_66 : decode m_To_init.2.1 66 = .ok (.new 9, 3) := by decide +kernel
theorem d_To_init_69 : decode m_To_init.2.1 69 = .ok (.dup, 1) := by decide +kernel
theorem d_To_init_70 : decode m_To_init.2.1 70 = .ok (.bipush 24, 2) := by decide +kernel
theorem d_To_init_72 : decode m_To_init.2.1 72 = .ok (.invokespecial 21, 3) := by decide +kernel
theorem d_To_init_75 : decode m_To_init.2.1 75 = .ok (.aastore, 1) := by decide +kernel
theorem d_To_init_76 : decode m_To_init.2.1 76 = .ok (.aload_n 0, 1) := by decide +kernel
theorem d_To_init_77 : decode m_To_init.2.1 77 = .ok (.new 25, 3) := by decide +kernel
theorem d_To_init_80 : decode m_To_init.2.1 80 = .ok (.dup, 1) := by decide +kernel
theorem d_To_init_81 : decode m_To_init.2.1 81 = .ok (.invokespecial 27, 3) := by decide +kernel
theorem d_To_init_84 : decode m_To_init.2.1 84 = .ok (.putfield 28, 3) := by decide +kernel
theorem d_To_init_87 : decode m_To_init.2.1 87 = .ok (.aload_n 0, 1) := by decide +kernel
theorem d_To_init_88 : decode m_To_init.2.1 88 = .ok (.new 25, 3) := by decide +kernel
theorem d_To_init_91 : decode m_To_init.2.1 91 = .ok (.dup, 1) := by decide +kernel
theorem d_To_init_92 : decode m_To_init.2.1 92 = .ok (.invokespecial 27, 3) := by decide +kernel
theorem d_To_init_95 : decode m_To_init.2.1 95 = .ok (.putfield 32, 3) := by decide +kernel
theorem d_To_init_98 : decode m_To_init.2.1 98 = .ok (.aload_n 0, 1) := by decide +kernel
theorem d_To_init_99 : decode m_To_init.2.1 99 = .ok (.new 35, 3) := by decide +kernel
theorem d_To_init_102 : decode m_To_init.2.1 102 = .ok (.dup, 1) := by decide +kernel
theorem d_To_init_103 : decode m_To_init.2.1 103 = .ok (.invokespecial 37, 3) := by decide +kernel
theorem d_To_init_106 : decode m_To_init.2.1 106 = .ok (.putfield 38, 3) := by decide +kernel
theorem d_To_init_109 : decode m_To_init.2.1 109 = .ok (.aload_n 0, 1) := by decide +kernel
theorem d_To_init_110 : decode m_To_init.2.1 110 = .ok (.new 42, 3) := by decide +kernel
theorem d_To_init_113 : decode m_To_init.2.1 113 = .ok (.dup, 1) := by decide +kernel
theorem d_To_init_114 : decode m_To_init.2.1 114 = .ok (.aload_n 0, 1) := by decide +kernel
theorem d_To_init_115 : decode m_To_init.2.1 115 = .ok (.getfield 28, 3) := by decide +kernel
theorem d_To_init_118 : decode m_To_init.2.1 118 = .ok (.invokespecial 44, 3) := by decide +kernel
theorem d_To_init_121 : decode m_To_init.2.1 121 = .ok (.putfield 47, 3) := by decide +kernel
theorem d_To_init_124 : decode m_To_init.2.1 124 = .ok (.aload_n 0, 1) := by decide +kernel
theorem d_To_init_125 : decode m_To_init.2.1 125 = .ok (.new 51, 3) := by decide +kernel
theorem d_To_init_128 : decode m_To_init.2.1 128 = .ok (.dup, 1) := by decide +kernel
theorem d_To_init_129 : decode m_To_init.2.1 129 = .ok (.invokespecial 53, 3) := by decide +kernel
theorem d_To_init_132 : decode m_To_init.2.1 132 = .ok (.putfield 54, 3) := by decide +kernel
theorem d_To_init_135 : decode m_To_init.2.1 135 = .ok (.return_, 1) := by decide +kernel
theorem d_To_type_0 : decode m_To_type.2.1 0 = .ok (.iload_n 1, 1) := by decide +kernel
theorem d_To_type_1 : decode m_To_type.2.1 1 = .ok (.ifCond .lt 8, 3) := by decide +kernel
theorem d_To_type_4 : decode m_To_type.2.1 4 = .ok (.iload_n 1, 1) := by decide +kernel
theorem d_To_type_5 : decode m_To_type.2.1 5 = .ok (.iconst 3, 1) := by decide +kernel
theorem d_To_type_6 : decode m_To_type.2.1 6 = .ok (.if_icmp .lt 5, 3) := by decide +kernel
theorem d_To_type_9 : decode m_To_type.2.1 9 = .ok (.iconst 0, 1) := by decide +kernel
theorem d_To_type_10 : decode m_To_type.2.1 10 = .ok (.ireturn, 1) := by decide +kernel
theorem d_To_type_11 : decode m_To_type.2.1 11 = .ok (.iload_n 1, 1) := by decide +kernel
theorem d_To_type_12 : decode m_To_type.2.1 12 = .ok (.iconst 2, 1) := by decide +kernel
theorem d_To_type_13 : decode m_To_type.2.1 13 = .ok (.if_icmp .ne 23, 3) := by decide +kernel
theorem d_To_type_16 : decode m_To_type.2.1 16 = .ok (.iload_n 2, 1) := by decide +kernel
theorem d_To_type_17 : decode m_To_type.2.1 17 = .ok (.bipush 32, 2) := by decide +kernel
theorem d_To_type_19 : decode m_To_type.2.1 19 = .ok (.if_icmp .lt 13, 3) := by decide +kernel
theorem d_To_type_22 : decode m_To_type.2.1 22 = .ok (.iload_n 2, 1) := by decide +kernel
theorem d_To_type_23 : decode m_To_type.2.1 23 = .ok (.bipush 126, 2) := by decide +kernel
theorem d_To_type_25 : decode m_To_type.2.1 25 = .ok (.if_icmp .gt 7, 3) := by decide +kernel
theorem d_To_type_28 : decode m_To_type.2.1 28 = .ok (.iconst 1, 1) := by decide +kernel
theorem d_To_type_29 : decode m_To_type.2.1 29 = .ok (.goto 33, 3) := by decide +kernel
theorem d_To_type_32 : decode m_To_type.2.1 32 = .ok (.iconst 0, 1) := by decide +kernel
theorem d_To_type_33 : decode m_To_type.2.1 33 = .ok (.goto 29, 3) := by decide +kernel
theorem d_To_type_36 : decode m_To_type.2.1 36 = .ok (.iload_n 2, 1) := by decide +kernel
theorem d_To_type_37 : decode m_To_type.2.1 37 = .ok (.invokestatic 58, 3) := by decide +kernel
theorem d_To_type_40 : decode m_To_type.2.1 40 = .ok (.ifCond .ne 17, 3) := by decide +kernel
theorem d_To_type_43 : decode m_To_type.2.1 43 = .ok (.iload_n 2, 1) := by decide +kernel
theorem d_To_type_44 : decode m_To_type.2.1 44 = .ok (.invokestatic 62, 3) := by decide +kernel
theorem d_To_type_47 : decode m_To_type.2.1 47 = .ok (.ifCond .ne 10, 3) := by decide +kernel
theorem d_To_type_50 : decode m_To_type.2.1 50 = .ok (.iload_n 2, 1) := by decide +kernel
theorem d_To_type_51 : decode m_To_type.2.1 51 = .ok (.invokestatic 65, 3) := by decide +kernel
theorem d_To_type_54 : decode m_To_type.2.1 54 = .ok (.ifCond .eq 7, 3) := by decide +kernel
theorem d_To_type_57 : decode m_To_type.2.1 57 = .ok (.iconst 1, 1) := by decide +kernel
theorem d_To_type_58 : decode m_To_type.2.1 58 = .ok (.goto 4, 3) := by decide +kernel
theorem d_To_type_61 : decode m_To_type.2.1 61 = .ok (.iconst 0, 1) := by decide +kernel
theorem d_To_type_62 : decode m_To_type.2.1 62 = .ok (.istore_n 3, 1) := by decide +kernel
theorem d_To_type_63 : decode m_To_type.2.1 63 = .ok (.iload_n 3, 1) := by decide +kernel
theorem d_To_type_64 : decode m_To_type.2.1 64 = .ok (.ifCond .eq 20, 3) := by decide +kernel
theorem d_To_type_67 : decode m_To_type.2.1 67 = .ok (.aload_n 0, 1) := by decide +kernel
theorem d_To_type_68 : decode m_To_type.2.1 68 = .ok (.getfield 11, 3) := by decide +kernel
theorem d_To_type_71 : decode m_To_type.2.1 71 = .ok (.iload_n 1, 1) := by decide +kernel
theorem d_To_type_72 : decode m_To_type.2.1 72 = .ok (.aaload, 1) := by decide +kernel
theorem d_To_type_73 : decode m_To_type.2.1 73 = .ok (.iload_n 2, 1) := by decide +kernel
theorem d_To_type_74 : decode m_To_type.2.1 74 = .ok (.invokevirtual 68, 3) := by decide +kernel
theorem d_To_type_77 : decode m_To_type.2.1 77 = .ok (.ifCond .eq 7, 3) := by decide +kernel
theorem d_To_type_80 : decode m_To_type.2.1 80 = .ok (.iconst 1, 1) := by decide +kernel
theorem d_To_type_81 : decode m_To_type.2.1 81 = .ok (.goto 4, 3) := by decide +kernel
theorem d_To_type_84 : decode m_To_type.2.1 84 = .ok (.iconst 0, 1) := by decide +kernel
theorem d_To_type_85 : decode m_To_type.2.1 85 = .ok (.ireturn, 1) := by decide +kernel
theorem d_To_wipe_0 : decode m_To_wipe.2.1 0 = .ok (.iload_n 1, 1) := by decide +kernel
theorem d_To_wipe_1 : decode m_To_wipe.2.1 1 = .ok (.ifCond .lt 8, 3) := by decide +kernel
theorem d_To_wipe_4 : decode m_To_wipe.2.1 4 = .ok (.iload_n 1, 1) := by decide +kernel
theorem d_To_wipe_5 : decode m_To_wipe.2.1 5 = .ok (.iconst 3, 1) := by decide +kernel
theorem d_To_wipe_6 : decode m_To_wipe.2.1 6 = .ok (.if_icmp .lt 7, 3) := by decide +kernel
theorem d_To_wipe_9 : decode m_To_wipe.2.1 9 = .ok (.iconst (-1), 1) := by decide +kernel
theorem d_To_wipe_10 : decode m_To_wipe.2.1 10 = .ok (.goto 12, 3) := by decide +kernel
theorem d_To_wipe_13 : decode m_To_wipe.2.1 13 = .ok (.aload_n 0, 1) := by decide +kernel
theorem d_To_wipe_14 : decode m_To_wipe.2.1 14 = .ok (.getfield 11, 3) := by decide +kernel
theorem d_To_wipe_17 : decode m_To_wipe.2.1 17 = .ok (.iload_n 1, 1) := by decide +kernel
theorem d_To_wipe_18 : decode m_To_wipe.2.1 18 = .ok (.aaload, 1) := by decide +kernel
theorem d_To_wipe_19 : decode m_To_wipe.2.1 19 = .ok (.invokevirtual 72, 3) := by decide +kernel
theorem d_To_wipe_22 : decode m_To_wipe.2.1 22 = .ok (.ireturn, 1) := by decide +kernel
theorem d_To_tailor_0 : decode m_To_tailor.2.1 0 = .ok (.aload_n 0, 1) := by decide +kernel
theorem d_To_tailor_1 : decode m_To_tailor.2.1 1 = .ok (.getfield 38, 3) := by decide +kernel
theorem d_To_tailor_4 : decode m_To_tailor.2.1 4 = .ok (.aload_n 0, 1) := by decide +kernel
theorem d_To_tailor_5 : decode m_To_tailor.2.1 5 = .ok (.getfield 11, 3) := by decide +kernel
theorem d_To_tailor_8 : decode m_To_tailor.2.1 8 = .ok (.iconst 2, 1) := by decide +kernel
theorem d_To_tailor_9 : decode m_To_tailor.2.1 9 = .ok (.aaload, 1) := by decide +kernel
theorem d_To_tailor_10 : decode m_To_tailor.2.1 10 = .ok (.invokevirtual 76, 3) := by decide +kernel
theorem d_To_tailor_13 : decode m_To_tailor.2.1 13 = .ok (.istore_n 1, 1) := by decide +kernel
theorem d_To_tailor_14 : decode m_To_tailor.2.1 14 = .ok (.aload_n 0, 1) := by decide +kernel
theorem d_To_tailor_15 : decode m_To_tailor.2.1 15 = .ok (.getfield 11, 3) := by decide +kernel
theorem d_To_tailor_18 : decode m_To_tailor.2.1 18 = .ok (.iconst 2, 1) := by decide +kernel
theorem d_To_tailor_19 : decode m_To_tailor.2.1 19 = .ok (.aaload, 1) := by decide +kernel
theorem d_To_tailor_20 : decode m_To_tailor.2.1 20 = .ok (.invokevirtual 72, 3) := by decide +kernel
theorem d_To_tailor_23 : decode m_To_tailor.2.1 23 = .ok (.pop, 1) := by decide +kernel
theorem d_To_tailor_24 : decode m_To_tailor.2.1 24 = .ok (.iload_n 1, 1) := by decide +kernel
theorem d_To_tailor_25 : decode m_To_tailor.2.1 25 = .ok (.ifCond .ge 5, 3) := by decide +kernel
theorem d_To_tailor_28 : decode m_To_tailor.2.1 28 = .ok (.iload_n 1, 1) := by decide +kernel
theorem d_To_tailor_29 : decode m_To_tailor.2.1 29 = .ok (.ireturn, 1) := by decide +kernel
theorem d_To_tailor_30 : decode m_To_tailor.2.1 30 = .ok (.aload_n 0, 1) := by decide +kernel
theorem d_To_tailor_31 : decode m_To_tailor.2.1 31 = .ok (.getfield 32, 3) := by decide +kernel
theorem d_To_tailor_34 : decode m_To_tailor.2.1 34 = .ok (.aload_n 0, 1) := by decide +kernel
theorem d_To_tailor_35 : decode m_To_tailor.2.1 35 = .ok (.getfield 28, 3) := by decide +kernel
theorem d_To_tailor_38 : decode m_To_tailor.2.1 38 = .ok (.invokevirtual 80, 3) := by decide +kernel
theorem d_To_tailor_41 : decode m_To_tailor.2.1 41 = .ok (.aload_n 0, 1) := by decide +kernel
theorem d_To_tailor_42 : decode m_To_tailor.2.1 42 = .ok (.getfield 32, 3) := by decide +kernel
theorem d_To_tailor_45 : decode m_To_tailor.2.1 45 = .ok (.aload_n 0, 1) := by decide +kernel
theorem d_To_tailor_46 : decode m_To_tailor.2.1 46 = .ok (.getfield 38, 3) := by decide +kernel
theorem d_To_tailor_49 : decode m_To_tailor.2.1 49 = .ok (.invokevirtual 83, 3) := by decide +kernel
theorem d_To_tailor_52 : decode m_To_tailor.2.1 52 = .ok (.istore_n 2, 1) := by decide +kernel
theorem d_To_tailor_53 : decode m_To_tailor.2.1 53 = .ok (.iload_n 2, 1) := by decide +kernel
theorem d_To_tailor_54 : decode m_To_tailor.2.1 54 = .ok (.ifCond .lt 14, 3) := by decide +kernel
theorem d_To_tailor_57 : decode m_To_tailor.2.1 57 = .ok (.aload_n 0, 1) := by decide +kernel
theorem d_To_tailor_58 : decode m_To_tailor.2.1 58 = .ok (.getfield 28, 3) := by decide +kernel
theorem d_To_tailor_61 : decode m_To_tailor.2.1 61 = .ok (.aload_n 0, 1) := by decide +kernel
theorem d_To_tailor_62 : decode m_To_tailor.2.1 62 = .ok (.getfield 32, 3) := by decide +kernel
theorem d_To_tailor_65 : decode m_To_tailor.2.1 65 = .ok (.invokevirtual 80, 3) := by decide +kernel
theorem d_To_tailor_68 : decode m_To_tailor.2.1 68 = .ok (.iload_n 2, 1) := by decide +kernel
theorem d_To_tailor_69 : decode m_To_tailor.2.1 69 = .ok (.ireturn, 1) := by decide +kernel
theorem d_To_entries_0 : decode m_To_entries.2.1 0 = .ok (.aload_n 0, 1) := by decide +kernel
theorem d_To_entries_1 : decode m_To_entries.2.1 1 = .ok (.getfield 28, 3) := by decide +kernel
theorem d_To_entries_4 : decode m_To_entries.2.1 4 = .ok (.getfield 87, 3) := by decide +kernel
theorem d_To_entries_7 : decode m_To_entries.2.1 7 = .ok (.ireturn, 1) := by decide +kernel
theorem d_To_entry_0 : decode m_To_entry.2.1 0 = .ok (.iload_n 1, 1) := by decide +kernel
theorem d_To_entry_1 : decode m_To_entry.2.1 1 = .ok (.ifCond .lt 14, 3) := by decide +kernel
theorem d_To_entry_4 : decode m_To_entry.2.1 4 = .ok (.iload_n 1, 1) := by decide +kernel
theorem d_To_entry_5 : decode m_To_entry.2.1 5 = .ok (.aload_n 0, 1) := by decide +kernel
theorem d_To_entry_6 : decode m_To_entry.2.1 6 = .ok (.getfield 28, 3) := by decide +kernel
theorem d_To_entry_9 : decode m_To_entry.2.1 9 = .ok (.getfield 87, 3) := by decide +kernel
theorem d_To_entry_12 : decode m_To_entry.2.1 12 = .ok (.if_icmp .lt 6, 3) := by decide +kernel
theorem d_To_entry_15 : decode m_To_entry.2.1 15 = .ok (.bipush (-2), 2) := by decide +kernel
theorem d_To_entry_17 : decode m_To_entry.2.1 17 = .ok (.ireturn, 1) := by decide +kernel
theorem d_To_entry_18 : decode m_To_entry.2.1 18 = .ok (.iload_n 2, 1) := by decide +kernel
theorem d_To_entry_19 : decode m_To_entry.2.1 19 = .ok (.tableswitch 105 0 6 #[41, 41, 41, 65, 75, 85, 95], 41) := by decide +kernel
theorem d_To_entry_60 : decode m_To_entry.2.1 60 = .ok (.aload_n 0, 1) := by decide +kernel
theorem d_To_entry_61 : decode m_To_entry.2.1 61 = .ok (.getfield 28, 3) := by decide +kernel
theorem d_To_entry_64 : decode m_To_entry.2.1 64 = .ok (.getfield 91, 3) := by decide +kernel
theorem d_To_entry_67 : decode m_To_entry.2.1 67 = .ok (.iload_n 1, 1) := by decide +kernel
theorem d_To_entry_68 : decode m_To_entry.2.1 68 = .ok (.iaload, 1) := by decide +kernel
theorem d_To_entry_69 : decode m_To_entry.2.1 69 = .ok (.iload_n 2, 1) := by decide +kernel
theorem d_To_entry_70 : decode m_To_entry.2.1 70 = .ok (.invokestatic 95, 3) := by decide +kernel
theorem d_To_entry_73 : decode m_To_entry.2.1 73 = .ok (.istore_n 3, 1) := by decide +kernel
theorem d_To_entry_74 : decode m_To_entry.2.1 74 = .ok (.iload_n 3, 1) := by decide +kernel
theorem d_To_entry_75 : decode m_To_entry.2.1 75 = .ok (.ifCond .ne 7, 3) := by decide +kernel
theorem d_To_entry_78 : decode m_To_entry.2.1 78 = .ok (.iconst (-1), 1) := by decide +kernel
theorem d_To_entry_79 : decode m_To_entry.2.1 79 = .ok (.goto 4, 3) := by decide +kernel
theorem d_To_entry_82 : decode m_To_entry.2.1 82 = .ok (.iload_n 3, 1) := by decide +kernel
theorem d_To_entry_83 : decode m_To_entry.2.1 83 = .ok (.ireturn, 1) := by decide +kernel
theorem d_To_entry_84 : decode m_To_entry.2.1 84 = .ok (.aload_n 0, 1) := by decide +kernel
theorem d_To_entry_85 : decode m_To_entry.2.1 85 = .ok (.getfield 28, 3) := by decide +kernel
theorem d_To_entry_88 : decode m_To_entry.2.1 88 = .ok (.getfield 99, 3) := by decide +kernel
theorem d_To_entry_91 : decode m_To_entry.2.1 91 = .ok (.iload_n 1, 1) := by decide +kernel
theorem d_To_entry_92 : decode m_To_entry.2.1 92 = .ok (.iaload, 1) := by decide +kernel
theorem d_To_entry_93 : decode m_To_entry.2.1 93 = .ok (.ireturn, 1) := by decide +kernel
theorem d_To_entry_94 : decode m_To_entry.2.1 94 = .ok (.aload_n 0, 1) := by decide +kernel
theorem d_To_entry_95 : decode m_To_entry.2.1 95 = .ok (.getfield 28, 3) := by decide +kernel
theorem d_To_entry_98 : decode m_To_entry.2.1 98 = .ok (.getfield 102, 3) := by decide +kernel
theorem d_To_entry_101 : decode m_To_entry.2.1 101 = .ok (.iload_n 1, 1) := by decide +kernel
theorem d_To_entry_102 : decode m_To_entry.2.1 102 = .ok (.iaload, 1) := by decide +kernel
theorem d_To_entry_103 : decode m_To_entry.2.1 103 = .ok (.ireturn, 1) := by decide +kernel
theorem d_To_entry_104 : decode m_To_entry.2.1 104 = .ok (.aload_n 0, 1) := by decide +kernel
theorem d_To_entry_105 : decode m_To_entry.2.1 105 = .ok (.getfield 28, 3) := by decide +kernel
theorem d_To_entry_108 : decode m_To_entry.2.1 108 = .ok (.getfield 105, 3) := by decide +kernel
theorem d_To_entry_111 : decode m_To_entry.2.1 111 = .ok (.iload_n 1, 1) := by decide +kernel
theorem d_To_entry_112 : decode m_To_entry.2.1 112 = .ok (.iaload, 1) := by decide +kernel
theorem d_To_entry_113 : decode m_To_entry.2.1 113 = .ok (.ireturn, 1) := by decide +kernel
theorem d_To_entry_114 : decode m_To_entry.2.1 114 = .ok (.aload_n 0, 1) := by decide +kernel
theorem d_To_entry_115 : decode m_To_entry.2.1 115 = .ok (.getfield 28, 3) := by decide +kernel
theorem d_To_entry_118 : decode m_To_entry.2.1 118 = .ok (.getfield 108, 3) := by decide +kernel
theorem d_To_entry_121 : decode m_To_entry.2.1 121 = .ok (.iload_n 1, 1) := by decide +kernel
theorem d_To_entry_122 : decode m_To_entry.2.1 122 = .ok (.iaload, 1) := by decide +kernel
theorem d_To_entry_123 : decode m_To_entry.2.1 123 = .ok (.ireturn, 1) := by decide +kernel
theorem d_To_entry_124 : decode m_To_entry.2.1 124 = .ok (.bipush (-2), 2) := by decide +kernel
theorem d_To_entry_126 : decode m_To_entry.2.1 126 = .ok (.ireturn, 1) := by decide +kernel
theorem d_To_form_0 : decode m_To_form.2.1 0 = .ok (.iload_n 1, 1) := by decide +kernel
theorem d_To_form_1 : decode m_To_form.2.1 1 = .ok (.iconst 1, 1) := by decide +kernel
theorem d_To_form_2 : decode m_To_form.2.1 2 = .ok (.if_icmp .lt 8, 3) := by decide +kernel
theorem d_To_form_5 : decode m_To_form.2.1 5 = .ok (.iload_n 1, 1) := by decide +kernel
theorem d_To_form_6 : decode m_To_form.2.1 6 = .ok (.iconst 4, 1) := by decide +kernel
theorem d_To_form_7 : decode m_To_form.2.1 7 = .ok (.if_icmp .le 5, 3) := by decide +kernel
theorem d_To_form_10 : decode m_To_form.2.1 10 = .ok (.iconst 0, 1) := by decide +kernel
theorem d_To_form_11 : decode m_To_form.2.1 11 = .ok (.ireturn, 1) := by decide +kernel
theorem d_To_form_12 : decode m_To_form.2.1 12 = .ok (.aload_n 0, 1) := by decide +kernel
theorem d_To_form_13 : decode m_To_form.2.1 13 = .ok (.getfield 47, 3) := by decide +kernel
theorem d_To_form_16 : decode m_To_form.2.1 16 = .ok (.iload_n 1, 1) := by decide +kernel
theorem d_To_form_17 : decode m_To_form.2.1 17 = .ok (.iload_n 2, 1) := by decide +kernel
theorem d_To_form_18 : decode m_To_form.2.1 18 = .ok (.iload_n 3, 1) := by decide +kernel
theorem d_To_form_19 : decode m_To_form.2.1 19 = .ok (.invokevirtual 111, 3) := by decide +kernel
theorem d_To_form_22 : decode m_To_form.2.1 22 = .ok (.iconst 1, 1) := by decide +kernel
theorem d_To_form_23 : decode m_To_form.2.1 23 = .ok (.ireturn, 1) := by decide +kernel
theorem d_To_keyLength_0 : decode m_To_keyLength.2.1 0 = .ok (.iload_n 1, 1) := by decide +kernel
theorem d_To_keyLength_1 : decode m_To_keyLength.2.1 1 = .ok (.invokestatic 115, 3) := by decide +kernel
theorem d_To_keyLength_4 : decode m_To_keyLength.2.1 4 = .ok (.ifCond .eq 14, 3) := by decide +kernel
theorem d_To_keyLength_7 : decode m_To_keyLength.2.1 7 = .ok (.aload_n 0, 1) := by decide +kernel
theorem d_To_keyLength_8 : decode m_To_keyLength.2.1 8 = .ok (.iload_n 1, 1) := by decide +kernel
theorem d_To_keyLength_9 : decode m_To_keyLength.2.1 9 = .ok (.invokevirtual 118, 3) := by decide +kernel
theorem d_To_keyLength_12 : decode m_To_keyLength.2.1 12 = .ok (.getfield 122, 3) := by decide +kernel
theorem d_To_keyLength_15 : decode m_To_keyLength.2.1 15 = .ok (.goto 4, 3) := by decide +kernel
theorem d_To_keyLength_18 : decode m_To_keyLength.2.1 18 = .ok (.iconst (-1), 1) := by decide +kernel
theorem d_To_keyLength_19 : decode m_To_keyLength.2.1 19 = .ok (.ireturn, 1) := by decide +kernel
theorem d_To_keyAt_0 : decode m_To_keyAt.2.1 0 = .ok (.iload_n 1, 1) := by decide +kernel
theorem d_To_keyAt_1 : decode m_To_keyAt.2.1 1 = .ok (.invokestatic 115, 3) := by decide +kernel
theorem d_To_keyAt_4 : decode m_To_keyAt.2.1 4 = .ok (.ifCond .ne 5, 3) := by decide +kernel
theorem d_To_keyAt_7 : decode m_To_keyAt.2.1 7 = .ok (.iconst (-1), 1) := by decide +kernel
theorem d_To_keyAt_8 : decode m_To_keyAt.2.1 8 = .ok (.ireturn, 1) := by decide +kernel
theorem d_To_keyAt_9 : decode m_To_keyAt.2.1 9 = .ok (.aload_n 0, 1) := by decide +kernel
theorem d_To_keyAt_10 : decode m_To_keyAt.2.1 10 = .ok (.iload_n 1, 1) := by decide +kernel
theorem d_To_keyAt_11 : decode m_To_keyAt.2.1 11 = .ok (.invokevirtual 118, 3) := by decide +kernel
theorem d_To_keyAt_14 : decode m_To_keyAt.2.1 14 = .ok (.astore_n 3, 1) := by decide +kernel
theorem d_To_keyAt_15 : decode m_To_keyAt.2.1 15 = .ok (.iload_n 2, 1) := by decide +kernel
theorem d_To_keyAt_16 : decode m_To_keyAt.2.1 16 = .ok (.ifCond .lt 11, 3) := by decide +kernel
theorem d_To_keyAt_19 : decode m_To_keyAt.2.1 19 = .ok (.iload_n 2, 1) := by decide +kernel
theorem d_To_keyAt_20 : decode m_To_keyAt.2.1 20 = .ok (.aload_n 3, 1) := by decide +kernel
theorem d_To_keyAt_21 : decode m_To_keyAt.2.1 21 = .ok (.getfield 122, 3) := by decide +kernel
theorem d_To_keyAt_24 : decode m_To_keyAt.2.1 24 = .ok (.if_icmp .lt 7, 3) := by decide +kernel
theorem d_To_keyAt_27 : decode m_To_keyAt.2.1 27 = .ok (.iconst (-1), 1) := by decide +kernel
theorem d_To_keyAt_28 : decode m_To_keyAt.2.1 28 = .ok (.goto 9, 3) := by decide +kernel
theorem d_To_keyAt_31 : decode m_To_keyAt.2.1 31 = .ok (.aload_n 3, 1) := by decide +kernel
theorem d_To_keyAt_32 : decode m_To_keyAt.2.1 32 = .ok (.getfield 125, 3) := by decide +kernel
theorem d_To_keyAt_35 : decode m_To_keyAt.2.1 35 = .ok (.iload_n 2, 1) := by decide +kernel
theorem d_To_keyAt_36 : decode m_To_keyAt.2.1 36 = .ok (.iaload, 1) := by decide +kernel
theorem d_To_keyAt_37 : decode m_To_keyAt.2.1 37 = .ok (.ireturn, 1) := by decide +kernel
theorem d_To_compare_0 : decode m_To_compare.2.1 0 = .ok (.aload_n 0, 1) := by decide +kernel
theorem d_To_compare_1 : decode m_To_compare.2.1 1 = .ok (.iconst 0, 1) := by decide +kernel
theorem d_To_compare_2 : decode m_To_compare.2.1 2 = .ok (.invokevirtual 118, 3) := by decide +kernel
theorem d_To_compare_5 : decode m_To_compare.2.1 5 = .ok (.aload_n 0, 1) := by decide +kernel
theorem d_To_compare_6 : decode m_To_compare.2.1 6 = .ok (.iconst 1, 1) := by decide +kernel
theorem d_To_compare_7 : decode m_To_compare.2.1 7 = .ok (.invokevirtual 118, 3) := by decide +kernel
theorem d_To_compare_10 : decode m_To_compare.2.1 10 = .ok (.invokevirtual 128, 3) := by decide +kernel
theorem d_To_compare_13 : decode m_To_compare.2.1 13 = .ok (.ireturn, 1) := by decide +kernel
theorem d_To_file_0 : decode m_To_file.2.1 0 = .ok (.iload_n 1, 1) := by decide +kernel
theorem d_To_file_1 : decode m_To_file.2.1 1 = .ok (.invokestatic 115, 3) := by decide +kernel
theorem d_To_file_4 : decode m_To_file.2.1 4 = .ok (.ifCond .eq 19, 3) := by decide +kernel
theorem d_To_file_7 : decode m_To_file.2.1 7 = .ok (.aload_n 0, 1) := by decide +kernel
theorem d_To_file_8 : decode m_To_file.2.1 8 = .ok (.getfield 54, 3) := by decide +kernel
theorem d_To_file_11 : decode m_To_file.2.1 11 = .ok (.aload_n 0, 1) := by decide +kernel
theorem d_To_file_12 : decode m_To_file.2.1 12 = .ok (.getfield 11, 3) := by decide +kernel
theorem d_To_file_15 : decode m_To_file.2.1 15 = .ok (.iload_n 1, 1) := by decide +kernel
theorem d_To_file_16 : decode m_To_file.2.1 16 = .ok (.aaload, 1) := by decide +kernel
theorem d_To_file_17 : decode m_To_file.2.1 17 = .ok (.invokevirtual 132, 3) := by decide +kernel
theorem d_To_file_20 : decode m_To_file.2.1 20 = .ok (.goto 4, 3) := by decide +kernel
theorem d_To_file_23 : decode m_To_file.2.1 23 = .ok (.iconst (-1), 1) := by decide +kernel
theorem d_To_file_24 : decode m_To_file.2.1 24 = .ok (.ireturn, 1) := by decide +kernel
theorem d_To_unfile_0 : decode m_To_unfile.2.1 0 = .ok (.aload_n 0, 1) := by decide +kernel
theorem d_To_unfile_1 : decode m_To_unfile.2.1 1 = .ok (.getfield 54, 3) := by decide +kernel
theorem d_To_unfile_4 : decode m_To_unfile.2.1 4 = .ok (.iload_n 1, 1) := by decide +kernel
theorem d_To_unfile_5 : decode m_To_unfile.2.1 5 = .ok (.invokevirtual 135, 3) := by decide +kernel
theorem d_To_unfile_8 : decode m_To_unfile.2.1 8 = .ok (.ireturn, 1) := by decide +kernel
theorem d_To_filed_0 : decode m_To_filed.2.1 0 = .ok (.aload_n 0, 1) := by decide +kernel
theorem d_To_filed_1 : decode m_To_filed.2.1 1 = .ok (.getfield 54, 3) := by decide +kernel
theorem d_To_filed_4 : decode m_To_filed.2.1 4 = .ok (.getfield 138, 3) := by decide +kernel
theorem d_To_filed_7 : decode m_To_filed.2.1 7 = .ok (.ireturn, 1) := by decide +kernel
theorem d_To_inOrder_0 : decode m_To_inOrder.2.1 0 = .ok (.aload_n 0, 1) := by decide +kernel
theorem d_To_inOrder_1 : decode m_To_inOrder.2.1 1 = .ok (.invokevirtual 139, 3) := by decide +kernel
theorem d_To_inOrder_4 : decode m_To_inOrder.2.1 4 = .ok (.aload_n 0, 1) := by decide +kernel
theorem d_To_inOrder_5 : decode m_To_inOrder.2.1 5 = .ok (.getfield 54, 3) := by decide +kernel
theorem d_To_inOrder_8 : decode m_To_inOrder.2.1 8 = .ok (.iload_n 1, 1) := by decide +kernel
theorem d_To_inOrder_9 : decode m_To_inOrder.2.1 9 = .ok (.invokevirtual 142, 3) := by decide +kernel
theorem d_To_inOrder_12 : decode m_To_inOrder.2.1 12 = .ok (.ireturn, 1) := by decide +kernel
theorem d_To_below_0 : decode m_To_below.2.1 0 = .ok (.iload_n 1, 1) := by decide +kernel
theorem d_To_below_1 : decode m_To_below.2.1 1 = .ok (.invokestatic 115, 3) := by decide +kernel
theorem d_To_below_4 : decode m_To_below.2.1 4 = .ok (.ifCond .ne 5, 3) := by decide +kernel
theorem d_To_below_7 : decode m_To_below.2.1 7 = .ok (.iconst (-1), 1) := by decide +kernel
theorem d_To_below_8 : decode m_To_below.2.1 8 = .ok (.ireturn, 1) := by decide +kernel
theorem d_To_below_9 : decode m_To_below.2.1 9 = .ok (.aload_n 0, 1) := by decide +kernel
theorem d_To_below_10 : decode m_To_below.2.1 10 = .ok (.invokevirtual 139, 3) := by decide +kernel
theorem d_To_below_13 : decode m_To_below.2.1 13 = .ok (.aload_n 0, 1) := by decide +kernel
theorem d_To_below_14 : decode m_To_below.2.1 14 = .ok (.getfield 54, 3) := by decide +kernel
theorem d_To_below_17 : decode m_To_below.2.1 17 = .ok (.aload_n 0, 1) := by decide +kernel
theorem d_To_below_18 : decode m_To_below.2.1 18 = .ok (.iload_n 1, 1) := by decide +kernel
theorem d_To_below_19 : decode m_To_below.2.1 19 = .ok (.invokevirtual 118, 3) := by decide +kernel
theorem d_To_below_22 : decode m_To_below.2.1 22 = .ok (.invokevirtual 146, 3) := by decide +kernel
theorem d_To_below_25 : decode m_To_below.2.1 25 = .ok (.ireturn, 1) := by decide +kernel
theorem d_To_isTextLine_0 : decode m_To_isTextLine.2.1 0 = .ok (.iload_n 0, 1) := by decide +kernel
theorem d_To_isTextLine_1 : decode m_To_isTextLine.2.1 1 = .ok (.ifCond .lt 12, 3) := by decide +kernel
theorem d_To_isTextLine_4 : decode m_To_isTextLine.2.1 4 = .ok (.iload_n 0, 1) := by decide +kernel
theorem d_To_isTextLine_5 : decode m_To_isTextLine.2.1 5 = .ok (.iconst 2, 1) := by decide +kernel
theorem d_To_isTextLine_6 : decode m_To_isTextLine.2.1 6 = .ok (.if_icmp .ge 7, 3) := by decide +kernel
theorem d_To_isTextLine_9 : decode m_To_isTextLine.2.1 9 = .ok (.iconst 1, 1) := by decide +kernel
theorem d_To_isTextLine_10 : decode m_To_isTextLine.2.1 10 = .ok (.goto 4, 3) := by decide +kernel
theorem d_To_isTextLine_13 : decode m_To_isTextLine.2.1 13 = .ok (.iconst 0, 1) := by decide +kernel
theorem d_To_isTextLine_14 : decode m_To_isTextLine.2.1 14 = .ok (.ireturn, 1) := by decide +kernel
theorem d_To_keyOf_0 : decode m_To_keyOf.2.1 0 = .ok (.aload_n 0, 1) := by decide +kernel
theorem d_To_keyOf_1 : decode m_To_keyOf.2.1 1 = .ok (.getfield 47, 3) := by decide +kernel
theorem d_To_keyOf_4 : decode m_To_keyOf.2.1 4 = .ok (.aload_n 0, 1) := by decide +kernel
theorem d_To_keyOf_5 : decode m_To_keyOf.2.1 5 = .ok (.getfield 11, 3) := by decide +kernel
theorem d_To_keyOf_8 : decode m_To_keyOf.2.1 8 = .ok (.iload_n 1, 1) := by decide +kernel
theorem d_To_keyOf_9 : decode m_To_keyOf.2.1 9 = .ok (.aaload, 1) := by decide +kernel
theorem d_To_keyOf_10 : decode m_To_keyOf.2.1 10 = .ok (.aload_n 0, 1) := by decide +kernel
theorem d_To_keyOf_11 : decode m_To_keyOf.2.1 11 = .ok (.getfield 17, 3) := by decide +kernel
theorem d_To_keyOf_14 : decode m_To_keyOf.2.1 14 = .ok (.iload_n 1, 1) := by decide +kernel
theorem d_To_keyOf_15 : decode m_To_keyOf.2.1 15 = .ok (.aaload, 1) := by decide +kernel
theorem d_To_keyOf_16 : decode m_To_keyOf.2.1 16 = .ok (.invokevirtual 149, 3) := by decide +kernel
theorem d_To_keyOf_19 : decode m_To_keyOf.2.1 19 = .ok (.aload_n 0, 1) := by decide +kernel
theorem d_To_keyOf_20 : decode m_To_keyOf.2.1 20 = .ok (.getfield 17, 3) := by decide +kernel
theorem d_To_keyOf_23 : decode m_To_keyOf.2.1 23 = .ok (.iload_n 1, 1) := by decide +kernel
theorem d_To_keyOf_24 : decode m_To_keyOf.2.1 24 = .ok (.aaload, 1) := by decide +kernel
theorem d_To_keyOf_25 : decode m_To_keyOf.2.1 25 = .ok (.areturn, 1) := by decide +kernel
theorem d_To_makeFolderKeys_0 : decode m_To_makeFolderKeys.2.1 0 = .ok (.iconst 0, 1) := by decide +kernel
theorem d_To_makeFolderKeys_1 : decode m_To_makeFolderKeys.2.1 1 = .ok (.istore_n 1, 1) := by decide +kernel
theorem d_To_makeFolderKeys_2 : decode m_To_makeFolderKeys.2.1 2 = .ok (.iload_n 1, 1) := by decide +kernel
theorem d_To_makeFolderKeys_3 : decode m_To_makeFolderKeys.2.1 3 = .ok (.aload_n 0, 1) := by decide +kernel
theorem d_To_makeFolderKeys_4 : decode m_To_makeFolderKeys.2.1 4 = .ok (.getfield 54, 3) := by decide +kernel
theorem d_To_makeFolderKeys_7 : decode m_To_makeFolderKeys.2.1 7 = .ok (.getfield 138, 3) := by decide +kernel
theorem d_To_makeFolderKeys_10 : decode m_To_makeFolderKeys.2.1 10 = .ok (.if_icmp .ge 34, 3) := by decide +kernel
theorem d_To_makeFolderKeys_13 : decode m_To_makeFolderKeys.2.1 13 = .ok (.aload_n 0, 1) := by decide +kernel
theorem d_To_makeFolderKeys_14 : decode m_To_makeFolderKeys.2.1 14 = .ok (.getfield 47, 3) := by decide +kernel
theorem d_To_makeFolderKeys_17 : decode m_To_makeFolderKeys.2.1 17 = .ok (.aload_n 0, 1) := by decide +kernel
theorem d_To_makeFolderKeys_18 : decode m_To_makeFolderKeys.2.1 18 = .ok (.getfield 54, 3) := by decide +kernel
theorem d_To_makeFolderKeys_21 : decode m_To_makeFolderKeys.2.1 21 = .ok (.getfield 153, 3) := by decide +kernel
theorem d_To_makeFolderKeys_24 : decode m_To_makeFolderKeys.2.1 24 = .ok (.iload_n 1, 1) := by decide +kernel
theorem d_To_makeFolderKeys_25 : decode m_To_makeFolderKeys.2.1 25 = .ok (.aaload, 1) := by decide +kernel
theorem d_To_makeFolderKeys_26 : decode m_To_makeFolderKeys.2.1 26 = .ok (.aload_n 0, 1) := by decide +kernel
theorem d_To_makeFolderKeys_27 : decode m_To_makeFolderKeys.2.1 27 = .ok (.getfield 54, 3) := by decide +kernel
theorem d_To_makeFolderKeys_30 : decode m_To_makeFolderKeys.2.1 30 = .ok (.getfield 156, 3) := by decide +kernel
theorem d_To_makeFolderKeys_33 : decode m_To_makeFolderKeys.2.1 33 = .ok (.iload_n 1, 1) := by decide +kernel
theorem d_To_makeFolderKeys_34 : decode m_To_makeFolderKeys.2.1 34 = .ok (.aaload, 1) := by decide +kernel
theorem d_To_makeFolderKeys_35 : decode m_To_makeFolderKeys.2.1 35 = .ok (.invokevirtual 149, 3) := by decide +kernel
theorem d_To_makeFolderKeys_38 : decode m_To_makeFolderKeys.2.1 38 = .ok (.iinc 1 1, 3) := by decide +kernel
theorem d_To_makeFolderKeys_41 : decode m_To_makeFolderKeys.2.1 41 = .ok (.goto (-39), 3) := by decide +kernel
theorem d_To_makeFolderKeys_44 : decode m_To_makeFolderKeys.2.1 44 = .ok (.return_, 1) := by decide +kernel
theorem d_To_isLetter_0 : decode m_To_isLetter.2.1 0 = .ok (.iload_n 0, 1) := by decide +kernel
theorem d_To_isLetter_1 : decode m_To_isLetter.2.1 1 = .ok (.bipush 97, 2) := by decide +kernel
theorem d_To_isLetter_3 : decode m_To_isLetter.2.1 3 = .ok (.if_icmp .lt 9, 3) := by decide +kernel
theorem d_To_isLetter_6 : decode m_To_isLetter.2.1 6 = .ok (.iload_n 0, 1) := by decide +kernel
theorem d_To_isLetter_7 : decode m_To_isLetter.2.1 7 = .ok (.bipush 104, 2) := by decide +kernel
theorem d_To_isLetter_9 : decode m_To_isLetter.2.1 9 = .ok (.if_icmp .le 15, 3) := by decide +kernel
theorem d_To_isLetter_12 : decode m_To_isLetter.2.1 12 = .ok (.iload_n 0, 1) := by decide +kernel
theorem d_To_isLetter_13 : decode m_To_isLetter.2.1 13 = .ok (.bipush 65, 2) := by decide +kernel
theorem d_To_isLetter_15 : decode m_To_isLetter.2.1 15 = .ok (.if_icmp .lt 13, 3) := by decide +kernel
theorem d_To_isLetter_18 : decode m_To_isLetter.2.1 18 = .ok (.iload_n 0, 1) := by decide +kernel
theorem d_To_isLetter_19 : decode m_To_isLetter.2.1 19 = .ok (.bipush 72, 2) := by decide +kernel
theorem d_To_isLetter_21 : decode m_To_isLetter.2.1 21 = .ok (.if_icmp .gt 7, 3) := by decide +kernel
theorem d_To_isLetter_24 : decode m_To_isLetter.2.1 24 = .ok (.iconst 1, 1) := by decide +kernel
theorem d_To_isLetter_25 : decode m_To_isLetter.2.1 25 = .ok (.goto 4, 3) := by decide +kernel
theorem d_To_isLetter_28 : decode m_To_isLetter.2.1 28 = .ok (.iconst 0, 1) := by decide +kernel
theorem d_To_isLetter_29 : decode m_To_isLetter.2.1 29 = .ok (.ireturn, 1) := by decide +kernel
theorem d_To_isVariable_0 : decode m_To_isVariable.2.1 0 = .ok (.iload_n 0, 1) := by decide +kernel
theorem d_To_isVariable_1 : decode m_To_isVariable.2.1 1 = .ok (.bipush 32, 2) := by decide +kernel
theorem d_To_isVariable_3 : decode m_To_isVariable.2.1 3 = .ok (.if_icmp .eq 9, 3) := by decide +kernel
theorem d_To_isVariable_6 : decode m_To_isVariable.2.1 6 = .ok (.iload_n 0, 1) := by decide +kernel
theorem d_To_isVariable_7 : decode m_To_isVariable.2.1 7 = .ok (.bipush 45, 2) := by decide +kernel
theorem d_To_isVariable_9 : decode m_To_isVariable.2.1 9 = .ok (.if_icmp .ne 7, 3) := by decide +kernel
theorem d_To_isVariable_12 : decode m_To_isVariable.2.1 12 = .ok (.iconst 1, 1) := by decide +kernel
theorem d_To_isVariable_13 : decode m_To_isVariable.2.1 13 = .ok (.goto 4, 3) := by decide +kernel
theorem d_To_isVariable_16 : decode m_To_isVariable.2.1 16 = .ok (.iconst 0, 1) := by decide +kernel
theorem d_To_isVariable_17 : decode m_To_isVariable.2.1 17 = .ok (.ireturn, 1) := by decide +kernel
theorem d_To_isMark_0 : decode m_To_isMark.2.1 0 = .ok (.iload_n 0, 1) := by decide +kernel
theorem d_To_isMark_1 : decode m_To_isMark.2.1 1 = .ok (.bipush 49, 2) := by decide +kernel
theorem d_To_isMark_3 : decode m_To_isMark.2.1 3 = .ok (.if_icmp .lt 13, 3) := by decide +kernel
theorem d_To_isMark_6 : decode m_To_isMark.2.1 6 = .ok (.iload_n 0, 1) := by decide +kernel
theorem d_To_isMark_7 : decode m_To_isMark.2.1 7 = .ok (.bipush 52, 2) := by decide +kernel
theorem d_To_isMark_9 : decode m_To_isMark.2.1 9 = .ok (.if_icmp .gt 7, 3) := by decide +kernel
theorem d_To_isMark_12 : decode m_To_isMark.2.1 12 = .ok (.iconst 1, 1) := by decide +kernel
theorem d_To_isMark_13 : decode m_To_isMark.2.1 13 = .ok (.goto 4, 3) := by decide +kernel
theorem d_To_isMark_16 : decode m_To_isMark.2.1 16 = .ok (.iconst 0, 1) := by decide +kernel
theorem d_To_isMark_17 : decode m_To_isMark.2.1 17 = .ok (.ireturn, 1) := by decide +kernel
theorem d_To_classOf_0 : decode m_To_classOf.2.1 0 = .ok (.iload_n 0, 1) := by decide +kernel
theorem d_To_classOf_1 : decode m_To_classOf.2.1 1 = .ok (.bipush 50, 2) := by decide +kernel
theorem d_To_classOf_3 : decode m_To_classOf.2.1 3 = .ok (.if_icmp .gt 7, 3) := by decide +kernel
theorem d_To_classOf_6 : decode m_To_classOf.2.1 6 = .ok (.iconst 1, 1) := by decide +kernel
theorem d_To_classOf_7 : decode m_To_classOf.2.1 7 = .ok (.goto 4, 3) := by decide +kernel
theorem d_To_classOf_10 : decode m_To_classOf.2.1 10 = .ok (.iconst 2, 1) := by decide +kernel
theorem d_To_classOf_11 : decode m_To_classOf.2.1 11 = .ok (.ireturn, 1) := by decide +kernel
theorem d_To_characterOf_0 : decode m_To_characterOf.2.1 0 = .ok (.iload_n 0, 1) := by decide +kernel
theorem d_To_characterOf_1 : decode m_To_characterOf.2.1 1 = .ok (.bipush 8, 2) := by decide +kernel
theorem d_To_characterOf_3 : decode m_To_characterOf.2.1 3 = .ok (.iload_n 1, 1) := by decide +kernel
theorem d_To_characterOf_4 : decode m_To_characterOf.2.1 4 = .ok (.imul, 1) := by decide +kernel
theorem d_To_characterOf_5 : decode m_To_characterOf.2.1 5 = .ok (.ishr, 1) := by decide +kernel
theorem d_To_characterOf_6 : decode m_To_characterOf.2.1 6 = .ok (.sipush 255, 3) := by decide +kernel
theorem d_To_characterOf_9 : decode m_To_characterOf.2.1 9 = .ok (.iand, 1) := by decide +kernel
theorem d_To_characterOf_10 : decode m_To_characterOf.2.1 10 = .ok (.ireturn, 1) := by decide +kernel
theorem d_To_lengthOf_0 : decode m_To_lengthOf.2.1 0 = .ok (.iload_n 0, 1) := by decide +kernel
theorem d_To_lengthOf_1 : decode m_To_lengthOf.2.1 1 = .ok (.sipush 256, 3) := by decide +kernel
theorem d_To_lengthOf_4 : decode m_To_lengthOf.2.1 4 = .ok (.if_icmp .ge 7, 3) := by decide +kernel
theorem d_To_lengthOf_7 : decode m_To_lengthOf.2.1 7 = .ok (.iconst 1, 1) := by decide +kernel
theorem d_To_lengthOf_8 : decode m_To_lengthOf.2.1 8 = .ok (.goto 14, 3) := by decide +kernel
theorem d_To_lengthOf_11 : decode m_To_lengthOf.2.1 11 = .ok (.iload_n 0, 1) := by decide +kernel
theorem d_To_lengthOf_12 : decode m_To_lengthOf.2.1 12 = .ok (.ldc 159, 2) := by decide +kernel
theorem d_To_lengthOf_14 : decode m_To_lengthOf.2.1 14 = .ok (.if_icmp .ge 7, 3) := by decide +kernel
theorem d_To_lengthOf_17 : decode m_To_lengthOf.2.1 17 = .ok (.iconst 2, 1) := by decide +kernel
theorem d_To_lengthOf_18 : decode m_To_lengthOf.2.1 18 = .ok (.goto 4, 3) := by decide +kernel
theorem d_To_lengthOf_21 : decode m_To_lengthOf.2.1 21 = .ok (.iconst 3, 1) := by decide +kernel
theorem d_To_lengthOf_22 : decode m_To_lengthOf.2.1 22 = .ok (.ireturn, 1) := by decide +kernel
theorem d_To_joined_0 : decode m_To_joined.2.1 0 = .ok (.iload_n 0, 1) := by decide +kernel
theorem d_To_joined_1 : decode m_To_joined.2.1 1 = .ok (.iload_n 2, 1) := by decide +kernel
theorem d_To_joined_2 : decode m_To_joined.2.1 2 = .ok (.bipush 8, 2) := by decide +kernel
theorem d_To_joined_4 : decode m_To_joined.2.1 4 = .ok (.iload_n 1, 1) := by decide +kernel
theorem d_To_joined_5 : decode m_To_joined.2.1 5 = .ok (.imul, 1) := by decide +kernel
theorem d_To_joined_6 : decode m_To_joined.2.1 6 = .ok (.ishl, 1) := by decide +kernel
theorem d_To_joined_7 : decode m_To_joined.2.1 7 = .ok (.ior, 1) := by decide +kernel
theorem d_To_joined_8 : decode m_To_joined.2.1 8 = .ok (.ireturn, 1) := by decide +kernel
theorem d_To_firstOf_0 : decode m_To_firstOf.2.1 0 = .ok (.iload_n 0, 1) := by decide +kernel
theorem d_To_firstOf_1 : decode m_To_firstOf.2.1 1 = .ok (.iconst 1, 1) := by decide +kernel
theorem d_To_firstOf_2 : decode m_To_firstOf.2.1 2 = .ok (.bipush 8, 2) := by decide +kernel
theorem d_To_firstOf_4 : decode m_To_firstOf.2.1 4 = .ok (.iload_n 1, 1) := by decide +kernel
theorem d_To_firstOf_5 : decode m_To_firstOf.2.1 5 = .ok (.imul, 1) := by decide +kernel
theorem d_To_firstOf_6 : decode m_To_firstOf.2.1 6 = .ok (.ishl, 1) := by decide +kernel
theorem d_To_firstOf_7 : decode m_To_firstOf.2.1 7 = .ok (.iconst 1, 1) := by decide +kernel
theorem d_To_firstOf_8 : decode m_To_firstOf.2.1 8 = .ok (.isub, 1) := by decide +kernel
theorem d_To_firstOf_9 : decode m_To_firstOf.2.1 9 = .ok (.iand, 1) := by decide +kernel
theorem d_To_firstOf_10 : decode m_To_firstOf.2.1 10 = .ok (.ireturn, 1) := by decide +kernel
theorem d_Km_init_0 : decode m_Km_init.2.1 0 = .ok (.aload_n 0, 1) := by decide +kernel
theorem d_Km_init_1 : decode m_Km_init.2.1 1 = .ok (.invokespecial 3, 3) := by decide +kernel
theorem d_Km_init_4 : decode m_Km_init.2.1 4 = .ok (.aload_n 0, 1) := by decide +kernel
theorem d_Km_init_5 : decode m_Km_init.2.1 5 = .ok (.aload_n 1, 1) := by decide +kernel
theorem d_Km_init_6 : decode m_Km_init.2.1 6 = .ok (.putfield 9, 3) := by decide +kernel
theorem d_Km_init_9 : decode m_Km_init.2.1 9 = .ok (.aload_n 0, 1) := by decide +kernel
theorem d_Km_init_10 : decode m_Km_init.2.1 10 = .ok (.bipush 12, 2) := by decide +kernel
theorem d_Km_init_12 : decode m_Km_init.2.1 12 = .ok (.newarray .char, 2) := by decide +kernel
theorem d_Km_init_14 : decode m_Km_init.2.1 14 = .ok (.putfield 15, 3) := by decide +kernel
theorem d_Km_init_17 : decode m_Km_init.2.1 17 = .ok (.aload_n 0, 1) := by decide +kernel
theorem d_Km_init_18 : decode m_Km_init.2.1 18 = .ok (.bipush 12, 2) := by decide +kernel
theorem d_Km_init_20 : decode m_Km_init.2.1 20 = .ok (.newarray .char, 2) := by decide +kernel
theorem d_Km_init_22 : decode m_Km_init.2.1 22 = .ok (.putfield 19, 3) := by decide +kernel
theorem d_Km_init_25 : decode m_Km_init.2.1 25 = .ok (.aload_n 0, 1) := by decide +kernel
theorem d_Km_init_26 : decode m_Km_init.2.1 26 = .ok (.iconst 4, 1) := by decide +kernel
theorem d_Km_init_27 : decode m_Km_init.2.1 27 = .ok (.bipush 12, 2) := by decide +kernel
theorem d_Km_init_29 : decode m_Km_init.2.1 29 = .ok (.multianewarray 22 2, 4) := by decide +kernel
theorem d_Km_init_33 : decode m_Km_init.2.1 33 = .ok (.putfield 24, 3) := by decide +kernel
theorem d_Km_init_36 : decode m_Km_init.2.1 36 = .ok (.aload_n 0, 1) := by decide +kernel
theorem d_Km_init_37 : decode m_Km_init.2.1 37 = .ok (.iconst 3, 1) := by decide +kernel
theorem d_Km_init_38 : decode m_Km_init.2.1 38 = .ok (.putfield 27, 3) := by decide +kernel
theorem d_Km_init_41 : decode m_Km_init.2.1 41 = .ok (.aload_n 0, 1) := by decide +kernel
theorem d_Km_init_42 : decode m_Km_init.2.1 42 = .ok (.iconst 0, 1) := by decide +kernel
theorem d_Km_init_43 : decode m_Km_init.2.1 43 = .ok (.putfield 31, 3) := by decide +kernel
theorem d_Km_init_46 : decode m_Km_init.2.1 46 = .ok (.aload_n 0, 1) := by decide +kernel
theorem d_Km_init_47 : decode m_Km_init.2.1 47 = .ok (.iconst 0, 1) := by decide +kernel
theorem d_Km_init_48 : decode m_Km_init.2.1 48 = .ok (.putfield 35, 3) := by decide +kernel
theorem d_Km_init_51 : decode m_Km_init.2.1 51 = .ok (.return_, 1) := by decide +kernel
theorem d_Km_shape_0 : decode m_Km_shape.2.1 0 = .ok (.aload_n 0, 1) := by decide +kernel
theorem d_Km_shape_1 : decode m_Km_shape.2.1 1 = .ok (.iload_n 1, 1) := by decide +kernel
theorem d_Km_shape_2 : decode m_Km_shape.2.1 2 = .ok (.putfield 27, 3) := by decide +kernel
theorem d_Km_shape_5 : decode m_Km_shape.2.1 5 = .ok (.aload_n 0, 1) := by decide +kernel
theorem d_Km_shape_6 : decode m_Km_shape.2.1 6 = .ok (.iload_n 2, 1) := by decide +kernel
theorem d_Km_shape_7 : decode m_Km_shape.2.1 7 = .ok (.putfield 31, 3) := by decide +kernel
theorem d_Km_shape_10 : decode m_Km_shape.2.1 10 = .ok (.aload_n 0, 1) := by decide +kernel
theorem d_Km_shape_11 : decode m_Km_shape.2.1 11 = .ok (.iload_n 3, 1) := by decide +kernel
theorem d_Km_shape_12 : decode m_Km_shape.2.1 12 = .ok (.putfield 35, 3) := by decide +kernel
theorem d_Km_shape_15 : decode m_Km_shape.2.1 15 = .ok (.return_, 1) := by decide +kernel
theorem d_Km_make_0 : decode m_Km_make.2.1 0 = .ok (.aload_n 0, 1) := by decide +kernel
theorem d_Km_make_1 : decode m_Km_make.2.1 1 = .ok (.aload_n 1, 1) := by decide +kernel
theorem d_Km_make_2 : decode m_Km_make.2.1 2 = .ok (.invokevirtual 38, 3) := by decide +kernel
theorem d_Km_make_5 : decode m_Km_make.2.1 5 = .ok (.aload_n 0, 1) := by decide +kernel
theorem d_Km_make_6 : decode m_Km_make.2.1 6 = .ok (.invokevirtual 42, 3) := by decide +kernel
theorem d_Km_make_9 : decode m_Km_make.2.1 9 = .ok (.aload_n 2, 1) := by decide +kernel
theorem d_Km_make_10 : decode m_Km_make.2.1 10 = .ok (.iconst 0, 1) := by decide +kernel
theorem d_Km_make_11 : decode m_Km_make.2.1 11 = .ok (.putfield 45, 3) := by decide +kernel
theorem d_Km_make_14 : decode m_Km_make.2.1 14 = .ok (.iconst 0, 1) := by decide +kernel
theorem d_Km_make_15 : decode m_Km_make.2.1 15 = .ok (.istore_n 3, 1) := by decide +kernel
theorem d_Km_make_16 : decode m_Km_make.2.1 16 = .ok (.iload_n 3, 1) := by decide +kernel
theorem d_Km_make_17 : decode m_Km_make.2.1 17 = .ok (.aload_n 0, 1) := by decide +kernel
theorem d_Km_make_18 : decode m_Km_make.2.1 18 = .ok (.getfield 27, 3) := by decide +kernel
theorem d_Km_make_21 : decode m_Km_make.2.1 21 = .ok (.if_icmp .ge 15, 3) := by decide +kernel
theorem d_Km_make_24 : decode m_Km_make.2.1 24 = .ok (.aload_n 0, 1) := by decide +kernel
theorem d_Km_make_25 : decode m_Km_make.2.1 25 = .ok (.iload_n 3, 1) := by decide +kernel
theorem d_Km_make_26 : decode m_Km_make.2.1 26 = .ok (.aload_n 2, 1) := by decide +kernel
theorem d_Km_make_27 : decode m_Km_make.2.1 27 = .ok (.invokevirtual 50, 3) := by decide +kernel
theorem d_Km_make_30 : decode m_Km_make.2.1 30 = .ok (.iinc 3 1, 3) := by decide +kernel
theorem d_Km_make_33 : decode m_Km_make.2.1 33 = .ok (.goto (-17), 3) := by decide +kernel
theorem d_Km_make_36 : decode m_Km_make.2.1 36 = .ok (.return_, 1) := by decide +kernel
theorem d_Km_arrange_0 : decode m_Km_arrange.2.1 0 = .ok (.aload_n 0, 1) := by decide +kernel
theorem d_Km_arrange_1 : decode m_Km_arrange.2.1 1 = .ok (.aload_n 1, 1) := by decide +kernel
theorem d_Km_arrange_2 : decode m_Km_arrange.2.1 2 = .ok (.getfield 54, 3) := by decide +kernel
theorem d_Km_arrange_5 : decode m_Km_arrange.2.1 5 = .ok (.putfield 57, 3) := by decide +kernel
theorem d_Km_arrange_8 : decode m_Km_arrange.2.1 8 = .ok (.iconst 0, 1) := by decide +kernel
theorem d_Km_arrange_9 : decode m_Km_arrange.2.1 9 = .ok (.istore_n 2, 1) := by decide +kernel
theorem d_Km_arrange_10 : decode m_Km_arrange.2.1 10 = .ok (.iload_n 2, 1) := by decide +kernel
theorem d_Km_arrange_11 : decode m_Km_arrange.2.1 11 = .ok (.aload_n 0, 1) := by decide +kernel
theorem d_Km_arrange_12 : decode m_Km_arrange.2.1 12 = .ok (.getfield 57, 3) := by decide +kernel
theorem d_Km_arrange_15 : decode m_Km_arrange.2.1 15 = .ok (.if_icmp .ge 67, 3) := by decide +kernel
theorem d_Km_arrange_18 : decode m_Km_arrange.2.1 18 = .ok (.iload_n 2, 1) := by decide +kernel
theorem d_Km_arrange_19 : decode m_Km_arrange.2.1 19 = .ok (.istore_n 3, 1) := by decide +kernel
theorem d_Km_arrange_20 : decode m_Km_arrange.2.1 20 = .ok (.iload_n 3, 1) := by decide +kernel
theorem d_Km_arrange_21 : decode m_Km_arrange.2.1 21 = .ok (.ifCond .le 43, 3) := by decide +kernel
theorem d_Km_arrange_24 : decode m_Km_arrange.2.1 24 = .ok (.aload_n 1, 1) := by decide +kernel
theorem d_Km_arrange_25 : decode m_Km_arrange.2.1 25 = .ok (.getfield 58, 3) := by decide +kernel
theorem d_Km_arrange_28 : decode m_Km_arrange.2.1 28 = .ok (.iload_n 2, 1) := by decide +kernel
theorem d_Km_arrange_29 : decode m_Km_arrange.2.1 29 = .ok (.caload, 1) := by decide +kernel
theorem d_Km_arrange_30 : decode m_Km_arrange.2.1 30 = .ok (.aload_n 0, 1) := by decide +kernel
theorem d_Km_arrange_31 : decode m_Km_arrange.2.1 31 = .ok (.getfield 15, 3) := by decide +kernel
theorem d_Km_arrange_34 : decode m_Km_arrange.2.1 34 = .ok (.iload_n 3, 1) := by decide +kernel
theorem d_Km_arrange_35 : decode m_Km_arrange.2.1 35 = .ok (.iconst 1, 1) := by decide +kernel
theorem d_Km_arrange_36 : decode m_Km_arrange.2.1 36 = .ok (.isub, 1) := by decide +kernel
theorem d_Km_arrange_37 : decode m_Km_arrange.2.1 37 = .ok (.caload, 1) := by decide +kernel
theorem d_Km_arrange_38 : decode m_Km_arrange.2.1 38 = .ok (.invokestatic 61, 3) := by decide +kernel
theorem d_Km_arrange_41 : decode m_Km_arrange.2.1 41 = .ok (.ifCond .eq 23, 3) := by decide +kernel
theorem d_Km_arrange_44 : decode m_Km_arrange.2.1 44 = .ok (.aload_n 0, 1) := by decide +kernel
theorem d_Km_arrange_45 : decode m_Km_arrange.2.1 45 = .ok (.getfield 15, 3) := by decide +kernel
theorem d_Km_arrange_48 : decode m_Km_arrange.2.1 48 = .ok (.iload_n 3, 1) := by decide +kernel
theorem d_Km_arrange_49 : decode m_Km_arrange.2.1 49 = .ok (.aload_n 0, 1) := by decide +kernel
theorem d_Km_arrange_50 : decode m_Km_arrange.2.1 50 = .ok (.getfield 15, 3) := by decide +kernel
theorem d_Km_arrange_53 : decode m_Km_arrange.2.1 53 = .ok (.iload_n 3, 1) := by decide +kernel
theorem d_Km_arrange_54 : decode m_Km_arrange.2.1 54 = .ok (.iconst 1, 1) := by decide +kernel
theorem d_Km_arrange_55 : decode m_Km_arrange.2.1 55 = .ok (.isub, 1) := by decide +kernel
theorem d_Km_arrange_56 : decode m_Km_arrange.2.1 56 = .ok (.caload, 1) := by decide +kernel
theorem d_Km_arrange_57 : decode m_Km_arrange.2.1 57 = .ok (.castore, 1) := by decide +kernel
theorem d_Km_arrange_58 : decode m_Km_arrange.2.1 58 = .ok (.iinc 3 (-1), 3) := by decide +kernel
theorem d_Km_arrange_61 : decode m_Km_arrange.2.1 61 = .ok (.goto (-41), 3) := by decide +kernel
theorem d_Km_arrange_64 : decode m_Km_arrange.2.1 64 = .ok (.aload_n 0, 1) := by decide +kernel
theorem d_Km_arrange_65 : decode m_Km_arrange.2.1 65 = .ok (.getfield 15, 3) := by decide +kernel
theorem d_Km_arrange_68 : decode m_Km_arrange.2.1 68 = .ok (.iload_n 3, 1) := by decide +kernel
theorem d_Km_arrange_69 : decode m_Km_arrange.2.1 69 = .ok (.aload_n 1, 1) := by decide +kernel
theorem d_Km_arrange_70 : decode m_Km_arrange.2.1 70 = .ok (.getfield 58, 3) := by decide +kernel
theorem d_Km_arrange_73 : decode m_Km_arrange.2.1 73 = .ok (.iload_n 2, 1) := by decide +kernel
theorem d_Km_arrange_74 : decode m_Km_arrange.2.1 74 = .ok (.caload, 1) := by decide +kernel
theorem d_Km_arrange_75 : decode m_Km_arrange.2.1 75 = .ok (.castore, 1) := by decide +kernel
theorem d_Km_arrange_76 : decode m_Km_arrange.2.1 76 = .ok (.iinc 2 1, 3) := by decide +kernel
theorem d_Km_arrange_79 : decode m_Km_arrange.2.1 79 = .ok (.goto (-69), 3) := by decide +kernel
theorem d_Km_arrange_82 : decode m_Km_arrange.2.1 82 = .ok (.return_, 1) := by decide +kernel
theorem d_Km_mustPass_0 : decode m_Km_mustPass.2.1 0 = .ok (.iload_n 0, 1) := by decide +kernel
theorem d_Km_mustPass_1 : decode m_Km_mustPass.2.1 1 = .ok (.invokestatic 65, 3) := by decide +kernel
theorem d_Km_mustPass_4 : decode m_Km_mustPass.2.1 4 = .ok (.ifCond .eq 25, 3) := by decide +kernel
theorem d_Km_mustPass_7 : decode m_Km_mustPass.2.1 7 = .ok (.iload_n 1, 1) := by decide +kernel
theorem d_Km_mustPass_8 : decode m_Km_mustPass.2.1 8 = .ok (.invokestatic 65, 3) := by decide +kernel
theorem d_Km_mustPass_11 : decode m_Km_mustPass.2.1 11 = .ok (.ifCond .eq 18, 3) := by decide +kernel
theorem d_Km_mustPass_14 : decode m_Km_mustPass.2.1 14 = .ok (.iload_n 0, 1) := by decide +kernel
theorem d_Km_mustPass_15 : decode m_Km_mustPass.2.1 15 = .ok (.invokestatic 69, 3) := by decide +kernel
theorem d_Km_mustPass_18 : decode m_Km_mustPass.2.1 18 = .ok (.iload_n 1, 1) := by decide +kernel
theorem d_Km_mustPass_19 : decode m_Km_mustPass.2.1 19 = .ok (.invokestatic 69, 3) := by decide +kernel
theorem d_Km_mustPass_22 : decode m_Km_mustPass.2.1 22 = .ok (.if_icmp .ge 7, 3) := by decide +kernel
theorem d_Km_mustPass_25 : decode m_Km_mustPass.2.1 25 = .ok (.iconst 1, 1) := by decide +kernel
theorem d_Km_mustPass_26 : decode m_Km_mustPass.2.1 26 = .ok (.goto 4, 3) := by decide +kernel
theorem d_Km_mustPass_29 : decode m_Km_mustPass.2.1 29 = .ok (.iconst 0, 1) := by decide +kernel
theorem d_Km_mustPass_30 : decode m_Km_mustPass.2.1 30 = .ok (.ireturn, 1) := by decide +kernel
theorem d_Km_findElements_0 : decode m_Km_findElements.2.1 0 = .ok (.aload_n 0, 1) := by decide +kernel
theorem d_Km_findElements_1 : decode m_Km_findElements.2.1 1 = .ok (.iconst 0, 1) := by decide +kernel
theorem d_Km_findElements_2 : decode m_Km_findElements.2.1 2 = .ok (.putfield 73, 3) := by decide +kernel
theorem d_Km_findElements_5 : decode m_Km_findElements.2.1 5 = .ok (.aload_n 0, 1) := by decide +kernel
theorem d_Km_findElements_6 : decode m_Km_findElements.2.1 6 = .ok (.iconst 0, 1) := by decide +kernel
theorem d_Km_findElements_7 : decode m_Km_findElements.2.1 7 = .ok (.putfield 76, 3) := by decide +kernel
theorem d_Km_findElements_10 : decode m_Km_findElements.2.1 10 = .ok (.iconst 0, 1) := by decide +kernel
theorem d_Km_findElements_11 : decode m_Km_findElements.2.1 11 = .ok (.istore_n 1, 1) := by decide +kernel
theorem d_Km_findElements_12 : decode m_Km_findElements.2.1 12 = .ok (.iconst 0, 1) := by decide +kernel
theorem d_Km_findElements_13 : decode m_Km_findElements.2.1 13 = .ok (.istore_n 2, 1) := by decide +kernel
theorem d_Km_findElements_14 : decode m_Km_findElements.2.1 14 = .ok (.iload_n 2, 1) := by decide +kernel
theorem d_Km_findElements_15 : decode m_Km_findElements.2.1 15 = .ok (.aload_n 0, 1) := by decide +kernel
theorem d_Km_findElements_16 : decode m_Km_findElements.2.1 16 = .ok (.getfield 57, 3) := by decide +kernel
theorem d_Km_findElements_19 : decode m_Km_findElements.2.1 19 = .ok (.if_icmp .ge 51, 3) := by decide +kernel
theorem d_Km_findElements_22 : decode m_Km_findElements.2.1 22 = .ok (.iload_n 1, 1) := by decide +kernel
theorem d_Km_findElements_23 : decode m_Km_findElements.2.1 23 = .ok (.aload_n 0, 1) := by decide +kernel
theorem d_Km_findElements_24 : decode m_Km_findElements.2.1 24 = .ok (.getfield 57, 3) := by decide +kernel
theorem d_Km_findElements_27 : decode m_Km_findElements.2.1 27 = .ok (.if_icmp .ge 43, 3) := by decide +kernel
theorem d_Km_findElements_30 : decode m_Km_findElements.2.1 30 = .ok (.aload_n 0, 1) := by decide +kernel
theorem d_Km_findElements_31 : decode m_Km_findElements.2.1 31 = .ok (.getfield 15, 3) := by decide +kernel
theorem d_Km_findElements_34 : decode m_Km_findElements.2.1 34 = .ok (.iload_n 1, 1) := by decide +kernel
theorem d_Km_findElements_35 : decode m_Km_findElements.2.1 35 = .ok (.caload, 1) := by decide +kernel
theorem d_Km_findElements_36 : decode m_Km_findElements.2.1 36 = .ok (.invokestatic 65, 3) := by decide +kernel
theorem d_Km_findElements_39 : decode m_Km_findElements.2.1 39 = .ok (.ifCond .eq 19, 3) := by decide +kernel
theorem d_Km_findElements_42 : decode m_Km_findElements.2.1 42 = .ok (.aload_n 0, 1) := by decide +kernel
theorem d_Km_findElements_43 : decode m_Km_findElements.2.1 43 = .ok (.aload_n 0, 1) := by decide +kernel
theorem d_Km_findElements_44 : decode m_Km_findElements.2.1 44 = .ok (.getfield 15, 3) := by decide +kernel
theorem d_Km_findElements_47 : decode m_Km_findElements.2.1 47 = .ok (.iload_n 1, 1) := by decide +kernel
theorem d_Km_findElements_48 : decode m_Km_findElements.2.1 48 = .ok (.caload, 1) := by decide +kernel
theorem d_Km_findElements_49 : decode m_Km_findElements.2.1 49 = .ok (.invokevirtual 79, 3) := by decide +kernel
theorem d_Km_findElements_52 : decode m_Km_findElements.2.1 52 = .ok (.iinc 1 1, 3) := by decide +kernel
theorem d_Km_findElements_55 : decode m_Km_findElements.2.1 55 = .ok (.goto 9, 3) := by decide +kernel
theorem d_Km_findElements_58 : decode m_Km_findElements.2.1 58 = .ok (.aload_n 0, 1) := by decide +kernel
theorem d_Km_findElements_59 : decode m_Km_findElements.2.1 59 = .ok (.iload_n 1, 1) := by decide +kernel
theorem d_Km_findElements_60 : decode m_Km_findElements.2.1 60 = .ok (.invokevirtual 83, 3) := by decide +kernel
theorem d_Km_findElements_63 : decode m_Km_findElements.2.1 63 = .ok (.istore_n 1, 1) := by decide +kernel
theorem d_Km_findElements_64 : decode m_Km_findElements.2.1 64 = .ok (.iinc 2 1, 3) := by decide +kernel
theorem d_Km_findElements_67 : decode m_Km_findElements.2.1 67 = .ok (.goto (-53), 3) := by decide +kernel
theorem d_Km_findElements_70 : decode m_Km_findElements.2.1 70 = .ok (.return_, 1) := by decide +kernel
theorem d_Km_takeEntry_0 : decode m_Km_takeEntry.2.1 0 = .ok (.aload_n 0, 1) := by decide +kernel
theorem d_Km_takeEntry_1 : decode m_Km_takeEntry.2.1 1 = .ok (.getfield 9, 3) := by decide +kernel
theorem d_Km_takeEntry_4 : decode m_Km_takeEntry.2.1 4 = .ok (.aload_n 0, 1) := by decide +kernel
theorem d_Km_takeEntry_5 : decode m_Km_takeEntry.2.1 5 = .ok (.iload_n 1, 1) := by decide +kernel
theorem d_Km_takeEntry_6 : decode m_Km_takeEntry.2.1 6 = .ok (.invokevirtual 86, 3) := by decide +kernel
theorem d_Km_takeEntry_9 : decode m_Km_takeEntry.2.1 9 = .ok (.invokevirtual 89, 3) := by decide +kernel
theorem d_Km_takeEntry_12 : decode m_Km_takeEntry.2.1 12 = .ok (.istore_n 2, 1) := by decide +kernel
theorem d_Km_takeEntry_13 : decode m_Km_takeEntry.2.1 13 = .ok (.iload_n 1, 1) := by decide +kernel
theorem d_Km_takeEntry_14 : decode m_Km_takeEntry.2.1 14 = .ok (.aload_n 0, 1) := by decide +kernel
theorem d_Km_takeEntry_15 : decode m_Km_takeEntry.2.1 15 = .ok (.getfield 9, 3) := by decide +kernel
theorem d_Km_takeEntry_18 : decode m_Km_takeEntry.2.1 18 = .ok (.getfield 94, 3) := by decide +kernel
theorem d_Km_takeEntry_21 : decode m_Km_takeEntry.2.1 21 = .ok (.iload_n 2, 1) := by decide +kernel
theorem d_Km_takeEntry_22 : decode m_Km_takeEntry.2.1 22 = .ok (.iaload, 1) := by decide +kernel
theorem d_Km_takeEntry_23 : decode m_Km_takeEntry.2.1 23 = .ok (.invokestatic 98, 3) := by decide +kernel
theorem d_Km_takeEntry_26 : decode m_Km_takeEntry.2.1 26 = .ok (.iadd, 1) := by decide +kernel
theorem d_Km_takeEntry_27 : decode m_Km_takeEntry.2.1 27 = .ok (.istore_n 3, 1) := by decide +kernel
theorem d_Km_takeEntry_28 : decode m_Km_takeEntry.2.1 28 = .ok (.iconst 0, 1) := by decide +kernel
theorem d_Km_takeEntry_29 : decode m_Km_takeEntry.2.1 29 = .ok (.istore 4, 2) := by decide +kernel
theorem d_Km_takeEntry_31 : decode m_Km_takeEntry.2.1 31 = .ok (.iload_n 3, 1) := by decide +kernel
theorem d_Km_takeEntry_32 : decode m_Km_takeEntry.2.1 32 = .ok (.aload_n 0, 1) := by decide +kernel
theorem d_Km_takeEntry_33 : decode m_Km_takeEntry.2.1 33 = .ok (.getfield 57, 3) := by decide +kernel
theorem d_Km_takeEntry_36 : decode m_Km_takeEntry.2.1 36 = .ok (.if_icmp .ge 81, 3) := by decide +kernel
theorem d_Km_takeEntry_39 : decode m_Km_takeEntry.2.1 39 = .ok (.aload_n 0, 1) := by decide +kernel
theorem d_Km_takeEntry_40 : decode m_Km_takeEntry.2.1 40 = .ok (.getfield 15, 3) := by decide +kernel
theorem d_Km_takeEntry_43 : decode m_Km_takeEntry.2.1 43 = .ok (.iload_n 3, 1) := by decide +kernel
theorem d_Km_takeEntry_44 : decode m_Km_takeEntry.2.1 44 = .ok (.caload, 1) := by decide +kernel
theorem d_Km_takeEntry_45 : decode m_Km_takeEntry.2.1 45 = .ok (.invokestatic 65, 3) := by decide +kernel
theorem d_Km_takeEntry_48 : decode m_Km_takeEntry.2.1 48 = .ok (.ifCond .eq 69, 3) := by decide +kernel
theorem d_Km_takeEntry_51 : decode m_Km_takeEntry.2.1 51 = .ok (.aload_n 0, 1) := by decide +kernel
theorem d_Km_takeEntry_52 : decode m_Km_takeEntry.2.1 52 = .ok (.aload_n 0, 1) := by decide +kernel
theorem d_Km_takeEntry_53 : decode m_Km_takeEntry.2.1 53 = .ok (.getfield 15, 3) := by decide +kernel
theorem d_Km_takeEntry_56 : decode m_Km_takeEntry.2.1 56 = .ok (.iload_n 3, 1) := by decide +kernel
theorem d_Km_takeEntry_57 : decode m_Km_takeEntry.2.1 57 = .ok (.caload, 1) := by decide +kernel
theorem d_Km_takeEntry_58 : decode m_Km_takeEntry.2.1 58 = .ok (.iload 4, 2) := by decide +kernel
theorem d_Km_takeEntry_60 : decode m_Km_takeEntry.2.1 60 = .ok (.invokevirtual 101, 3) := by decide +kernel
theorem d_Km_takeEntry_63 : decode m_Km_takeEntry.2.1 63 = .ok (.ifCond .eq 7, 3) := by decide +kernel
theorem d_Km_takeEntry_66 : decode m_Km_takeEntry.2.1 66 = .ok (.iconst (-1), 1) := by decide +kernel
theorem d_Km_takeEntry_67 : decode m_Km_takeEntry.2.1 67 = .ok (.goto 14, 3) := by decide +kernel
theorem d_Km_takeEntry_70 : decode m_Km_takeEntry.2.1 70 = .ok (.aload_n 0, 1) := by decide +kernel
theorem d_Km_takeEntry_71 : decode m_Km_takeEntry.2.1 71 = .ok (.iload_n 2, 1) := by decide +kernel
theorem d_Km_takeEntry_72 : decode m_Km_takeEntry.2.1 72 = .ok (.aload_n 0, 1) := by decide +kernel
theorem d_Km_takeEntry_73 : decode m_Km_takeEntry.2.1 73 = .ok (.getfield 15, 3) := by decide +kernel
theorem d_Km_takeEntry_76 : decode m_Km_takeEntry.2.1 76 = .ok (.iload_n 3, 1) := by decide +kernel
theorem d_Km_takeEntry_77 : decode m_Km_takeEntry.2.1 77 = .ok (.caload, 1) := by decide +kernel
theorem d_Km_takeEntry_78 : decode m_Km_takeEntry.2.1 78 = .ok (.invokevirtual 105, 3) := by decide +kernel
theorem d_Km_takeEntry_81 : decode m_Km_takeEntry.2.1 81 = .ok (.istore 5, 2) := by decide +kernel
theorem d_Km_takeEntry_83 : decode m_Km_takeEntry.2.1 83 = .ok (.iload 5, 2) := by decide +kernel
theorem d_Km_takeEntry_85 : decode m_Km_takeEntry.2.1 85 = .ok (.iconst (-1), 1) := by decide +kernel
theorem d_Km_takeEntry_86 : decode m_Km_takeEntry.2.1 86 = .ok (.if_icmp .eq 9, 3) := by decide +kernel
theorem d_Km_takeEntry_89 : decode m_Km_takeEntry.2.1 89 = .ok (.iload 5, 2) := by decide +kernel
theorem d_Km_takeEntry_91 : decode m_Km_takeEntry.2.1 91 = .ok (.istore_n 2, 1) := by decide +kernel
theorem d_Km_takeEntry_92 : decode m_Km_takeEntry.2.1 92 = .ok (.goto 19, 3) := by decide +kernel
theorem d_Km_takeEntry_95 : decode m_Km_takeEntry.2.1 95 = .ok (.aload_n 0, 1) := by decide +kernel
theorem d_Km_takeEntry_96 : decode m_Km_takeEntry.2.1 96 = .ok (.getfield 19, 3) := by decide +kernel
theorem d_Km_takeEntry_99 : decode m_Km_takeEntry.2.1 99 = .ok (.iload 4, 2) := by decide +kernel
theorem d_Km_takeEntry_101 : decode m_Km_takeEntry.2.1 101 = .ok (.aload_n 0, 1) := by decide +kernel
theorem d_Km_takeEntry_102 : decode m_Km_takeEntry.2.1 102 = .ok (.getfield 15, 3) := by decide +kernel
theorem d_Km_takeEntry_105 : decode m_Km_takeEntry.2.1 105 = .ok (.iload_n 3, 1) := by decide +kernel
theorem d_Km_takeEntry_106 : decode m_Km_takeEntry.2.1 106 = .ok (.caload, 1) := by decide +kernel
theorem d_Km_takeEntry_107 : decode m_Km_takeEntry.2.1 107 = .ok (.castore, 1) := by decide +kernel
theorem d_Km_takeEntry_108 : decode m_Km_takeEntry.2.1 108 = .ok (.iinc 4 1, 3) := by decide +kernel
theorem d_Km_takeEntry_111 : decode m_Km_takeEntry.2.1 111 = .ok (.iinc 3 1, 3) := by decide +kernel
theorem d_Km_takeEntry_114 : decode m_Km_takeEntry.2.1 114 = .ok (.goto (-83), 3) := by decide +kernel
theorem d_Km_takeEntry_117 : decode m_Km_takeEntry.2.1 117 = .ok (.aload_n 0, 1) := by decide +kernel
theorem d_Km_takeEntry_118 : decode m_Km_takeEntry.2.1 118 = .ok (.iload_n 2, 1) := by decide +kernel
theorem d_Km_takeEntry_119 : decode m_Km_takeEntry.2.1 119 = .ok (.invokevirtual 109, 3) := by decide +kernel
theorem d_Km_takeEntry_122 : decode m_Km_takeEntry.2.1 122 = .ok (.iconst 0, 1) := by decide +kernel
theorem d_Km_takeEntry_123 : decode m_Km_takeEntry.2.1 123 = .ok (.istore 5, 2) := by decide +kernel
theorem d_Km_takeEntry_125 : decode m_Km_takeEntry.2.1 125 = .ok (.iload 5, 2) := by decide +kernel
theorem d_Km_takeEntry_127 : decode m_Km_takeEntry.2.1 127 = .ok (.iload 4, 2) := by decide +kernel
theorem d_Km_takeEntry_129 : decode m_Km_takeEntry.2.1 129 = .ok (.if_icmp .ge 20, 3) := by decide +kernel
theorem d_Km_takeEntry_132 : decode m_Km_takeEntry.2.1 132 = .ok (.aload_n 0, 1) := by decide +kernel
theorem d_Km_takeEntry_133 : decode m_Km_takeEntry.2.1 133 = .ok (.aload_n 0, 1) := by decide +kernel
theorem d_Km_takeEntry_134 : decode m_Km_takeEntry.2.1 134 = .ok (.getfield 19, 3) := by decide +kernel
theorem d_Km_takeEntry_137 : decode m_Km_takeEntry.2.1 137 = .ok (.iload 5, 2) := by decide +kernel
theorem d_Km_takeEntry_139 : decode m_Km_takeEntry.2.1 139 = .ok (.caload, 1) := by decide +kernel
theorem d_Km_takeEntry_140 : decode m_Km_takeEntry.2.1 140 = .ok (.invokevirtual 79, 3) := by decide +kernel
theorem d_Km_takeEntry_143 : decode m_Km_takeEntry.2.1 143 = .ok (.iinc 5 1, 3) := by decide +kernel
theorem d_Km_takeEntry_146 : decode m_Km_takeEntry.2.1 146 = .ok (.goto (-21), 3) := by decide +kernel
theorem d_Km_takeEntry_149 : decode m_Km_takeEntry.2.1 149 = .ok (.iload_n 3, 1) := by decide +kernel
theorem d_Km_takeEntry_150 : decode m_Km_takeEntry.2.1 150 = .ok (.ireturn, 1) := by decide +kernel
theorem d_Km_headAt_0 : decode m_Km_headAt.2.1 0 = .ok (.aload_n 0, 1) := by decide +kernel
theorem d_Km_headAt_1 : decode m_Km_headAt.2.1 1 = .ok (.getfield 15, 3) := by decide +kernel
theorem d_Km_headAt_4 : decode m_Km_headAt.2.1 4 = .ok (.iload_n 1, 1) := by decide +kernel
theorem d_Km_headAt_5 : decode m_Km_headAt.2.1 5 = .ok (.caload, 1) := by decide +kernel
theorem d_Km_headAt_6 : decode m_Km_headAt.2.1 6 = .ok (.istore_n 2, 1) := by decide +kernel
theorem d_Km_headAt_7 : decode m_Km_headAt.2.1 7 = .ok (.iconst 1, 1) := by decide +kernel
theorem d_Km_headAt_8 : decode m_Km_headAt.2.1 8 = .ok (.istore_n 3, 1) := by decide +kernel
theorem d_Km_headAt_9 : decode m_Km_headAt.2.1 9 = .ok (.iload_n 3, 1) := by decide +kernel
theorem d_Km_headAt_10 : decode m_Km_headAt.2.1 10 = .ok (.iconst 3, 1) := by decide +kernel
theorem d_Km_headAt_11 : decode m_Km_headAt.2.1 11 = .ok (.if_icmp .ge 35, 3) := by decide +kernel
theorem d_Km_headAt_14 : decode m_Km_headAt.2.1 14 = .ok (.iload_n 1, 1) := by decide +kernel
theorem d_Km_headAt_15 : decode m_Km_headAt.2.1 15 = .ok (.iload_n 3, 1) := by decide +kernel
theorem d_Km_headAt_16 : decode m_Km_headAt.2.1 16 = .ok (.iadd, 1) := by decide +kernel
theorem d_Km_headAt_17 : decode m_Km_headAt.2.1 17 = .ok (.aload_n 0, 1) := by decide +kernel
theorem d_Km_headAt_18 : decode m_Km_headAt.2.1 18 = .ok (.getfield 57, 3) := by decide +kernel
theorem d_Km_headAt_21 : decode m_Km_headAt.2.1 21 = .ok (.if_icmp .ge 25, 3) := by decide +kernel
theorem d_Km_headAt_24 : decode m_Km_headAt.2.1 24 = .ok (.iload_n 2, 1) := by decide +kernel
theorem d_Km_headAt_25 : decode m_Km_headAt.2.1 25 = .ok (.aload_n 0, 1) := by decide +kernel
theorem d_Km_headAt_26 : decode m_Km_headAt.2.1 26 = .ok (.getfield 15, 3) := by decide +kernel
theorem d_Km_headAt_29 : decode m_Km_headAt.2.1 29 = .ok (.iload_n 1, 1) := by decide +kernel
theorem d_Km_headAt_30 : decode m_Km_headAt.2.1 30 = .ok (.iload_n 3, 1) := by decide +kernel
theorem d_Km_headAt_31 : decode m_Km_headAt.2.1 31 = .ok (.iadd, 1) := by decide +kernel
theorem d_Km_headAt_32 : decode m_Km_headAt.2.1 32 = .ok (.caload, 1) := by decide +kernel
theorem d_Km_headAt_33 : decode m_Km_headAt.2.1 33 = .ok (.bipush 8, 2) := by decide +kernel
theorem d_Km_headAt_35 : decode m_Km_headAt.2.1 35 = .ok (.iload_n 3, 1) := by decide +kernel
theorem d_Km_headAt_36 : decode m_Km_headAt.2.1 36 = .ok (.imul, 1) := by decide +kernel
theorem d_Km_headAt_37 : decode m_Km_headAt.2.1 37 = .ok (.ishl, 1) := by decide +kernel
theorem d_Km_headAt_38 : decode m_Km_headAt.2.1 38 = .ok (.ior, 1) := by decide +kernel
theorem d_Km_headAt_39 : decode m_Km_headAt.2.1 39 = .ok (.istore_n 2, 1) := by decide +kernel
theorem d_Km_headAt_40 : decode m_Km_headAt.2.1 40 = .ok (.iinc 3 1, 3) := by decide +kernel
theorem d_Km_headAt_43 : decode m_Km_headAt.2.1 43 = .ok (.goto (-34), 3) := by decide +kernel
theorem d_Km_headAt_46 : decode m_Km_headAt.2.1 46 = .ok (.iload_n 2, 1) := by decide +kernel
theorem d_Km_headAt_47 : decode m_Km_headAt.2.1 47 = .ok (.ireturn, 1) := by decide +kernel
theorem d_Km_isBlocked_0 : decode m_Km_isBlocked.2.1 0 = .ok (.iconst 0, 1) := by decide +kernel
theorem d_Km_isBlocked_1 : decode m_Km_isBlocked.2.1 1 = .ok (.istore_n 3, 1) := by decide +kernel
theorem d_Km_isBlocked_2 : decode m_Km_isBlocked.2.1 2 = .ok (.iload_n 3, 1) := by decide +kernel
theorem d_Km_isBlocked_3 : decode m_Km_isBlocked.2.1 3 = .ok (.iload_n 2, 1) := by decide +kernel
theorem d_Km_isBlocked_4 : decode m_Km_isBlocked.2.1 4 = .ok (.if_icmp .ge 27, 3) := by decide +kernel
theorem d_Km_isBlocked_7 : decode m_Km_isBlocked.2.1 7 = .ok (.aload_n 0, 1) := by decide +kernel
theorem d_Km_isBlocked_8 : decode m_Km_isBlocked.2.1 8 = .ok (.getfield 19, 3) := by decide +kernel
theorem d_Km_isBlocked_11 : decode m_Km_isBlocked.2.1 11 = .ok (.iload_n 3, 1) := by decide +kernel
theorem d_Km_isBlocked_12 : decode m_Km_isBlocked.2.1 12 = .ok (.caload, 1) := by decide +kernel
theorem d_Km_isBlocked_13 : decode m_Km_isBlocked.2.1 13 = .ok (.invokestatic 69, 3) := by decide +kernel
theorem d_Km_isBlocked_16 : decode m_Km_isBlocked.2.1 16 = .ok (.iload_n 1, 1) := by decide +kernel
theorem d_Km_isBlocked_17 : decode m_Km_isBlocked.2.1 17 = .ok (.invokestatic 69, 3) := by decide +kernel
theorem d_Km_isBlocked_20 : decode m_Km_isBlocked.2.1 20 = .ok (.if_icmp .ne 5, 3) := by decide +kernel
theorem d_Km_isBlocked_23 : decode m_Km_isBlocked.2.1 23 = .ok (.iconst 1, 1) := by decide +kernel
theorem d_Km_isBlocked_24 : decode m_Km_isBlocked.2.1 24 = .ok (.ireturn, 1) := by decide +kernel
theorem d_Km_isBlocked_25 : decode m_Km_isBlocked.2.1 25 = .ok (.iinc 3 1, 3) := by decide +kernel
theorem d_Km_isBlocked_28 : decode m_Km_isBlocked.2.1 28 = .ok (.goto (-26), 3) := by decide +kernel
theorem d_Km_isBlocked_31 : decode m_Km_isBlocked.2.1 31 = .ok (.iconst 0, 1) := by decide +kernel
theorem d_Km_isBlocked_32 : decode m_Km_isBlocked.2.1 32 = .ok (.ireturn, 1) := by decide +kernel
theorem d_Km_findLonger_0 : decode m_Km_findLonger.2.1 0 = .ok (.aload_n 0, 1) := by decide +kernel
theorem d_Km_findLonger_1 : decode m_Km_findLonger.2.1 1 = .ok (.getfield 9, 3) := by decide +kernel
theorem d_Km_findLonger_4 : decode m_Km_findLonger.2.1 4 = .ok (.getfield 94, 3) := by decide +kernel
theorem d_Km_findLonger_7 : decode m_Km_findLonger.2.1 7 = .ok (.iload_n 1, 1) := by decide +kernel
theorem d_Km_findLonger_8 : decode m_Km_findLonger.2.1 8 = .ok (.iaload, 1) := by decide +kernel
theorem d_Km_findLonger_9 : decode m_Km_findLonger.2.1 9 = .ok (.istore_n 3, 1) := by decide +kernel
theorem d_Km_findLonger_10 : decode m_Km_findLonger.2.1 10 = .ok (.iload_n 3, 1) := by decide +kernel
theorem d_Km_findLonger_11 : decode m_Km_findLonger.2.1 11 = .ok (.invokestatic 98, 3) := by decide +kernel
theorem d_Km_findLonger_14 : decode m_Km_findLonger.2.1 14 = .ok (.istore 4, 2) := by decide +kernel
theorem d_Km_findLonger_16 : decode m_Km_findLonger.2.1 16 = .ok (.iload 4, 2) := by decide +kernel
theorem d_Km_findLonger_18 : decode m_Km_findLonger.2.1 18 = .ok (.iconst 3, 1) := by decide +kernel
theorem d_Km_findLonger_19 : decode m_Km_findLonger.2.1 19 = .ok (.if_icmp .lt 7, 3) := by decide +kernel
theorem d_Km_findLonger_22 : decode m_Km_findLonger.2.1 22 = .ok (.iconst (-1), 1) := by decide +kernel
theorem d_Km_findLonger_23 : decode m_Km_findLonger.2.1 23 = .ok (.goto 17, 3) := by decide +kernel
theorem d_Km_findLonger_26 : decode m_Km_findLonger.2.1 26 = .ok (.aload_n 0, 1) := by decide +kernel
theorem d_Km_findLonger_27 : decode m_Km_findLonger.2.1 27 = .ok (.getfield 9, 3) := by decide +kernel
theorem d_Km_findLonger_30 : decode m_Km_findLonger.2.1 30 = .ok (.iload_n 3, 1) := by decide +kernel
theorem d_Km_findLonger_31 : decode m_Km_findLonger.2.1 31 = .ok (.iload 4, 2) := by decide +kernel
theorem d_Km_findLonger_33 : decode m_Km_findLonger.2.1 33 = .ok (.iload_n 2, 1) := by decide +kernel
theorem d_Km_findLonger_34 : decode m_Km_findLonger.2.1 34 = .ok (.invokestatic 113, 3) := by decide +kernel
theorem d_Km_findLonger_37 : decode m_Km_findLonger.2.1 37 = .ok (.invokevirtual 117, 3) := by decide +kernel
theorem d_Km_findLonger_40 : decode m_Km_findLonger.2.1 40 = .ok (.ireturn, 1) := by decide +kernel
theorem d_Km_addEntry_0 : decode m_Km_addEntry.2.1 0 = .ok (.aload_n 0, 1) := by decide +kernel
theorem d_Km_addEntry_1 : decode m_Km_addEntry.2.1 1 = .ok (.aload_n 0, 1) := by decide +kernel
theorem d_Km_addEntry_2 : decode m_Km_addEntry.2.1 2 = .ok (.getfield 9, 3) := by decide +kernel
theorem d_Km_addEntry_5 : decode m_Km_addEntry.2.1 5 = .ok (.getfield 94, 3) := by decide +kernel
theorem d_Km_addEntry_8 : decode m_Km_addEntry.2.1 8 = .ok (.iload_n 1, 1) := by decide +kernel
theorem d_Km_addEntry_9 : decode m_Km_addEntry.2.1 9 = .ok (.iaload, 1) := by decide +kernel
theorem d_Km_addEntry_10 : decode m_Km_addEntry.2.1 10 = .ok (.invokestatic 120, 3) := by decide +kernel
theorem d_Km_addEntry_13 : decode m_Km_addEntry.2.1 13 = .ok (.putfield 76, 3) := by decide +kernel
theorem d_Km_addEntry_16 : decode m_Km_addEntry.2.1 16 = .ok (.aload_n 0, 1) := by decide +kernel
theorem d_Km_addEntry_17 : decode m_Km_addEntry.2.1 17 = .ok (.getfield 31, 3) := by decide +kernel
theorem d_Km_addEntry_20 : decode m_Km_addEntry.2.1 20 = .ok (.ifCond .eq 29, 3) := by decide +kernel
theorem d_Km_addEntry_23 : decode m_Km_addEntry.2.1 23 = .ok (.aload_n 0, 1) := by decide +kernel
theorem d_Km_addEntry_24 : decode m_Km_addEntry.2.1 24 = .ok (.getfield 76, 3) := by decide +kernel
theorem d_Km_addEntry_27 : decode m_Km_addEntry.2.1 27 = .ok (.ifCond .eq 22, 3) := by decide +kernel
theorem d_Km_addEntry_30 : decode m_Km_addEntry.2.1 30 = .ok (.aload_n 0, 1) := by decide +kernel
theorem d_Km_addEntry_31 : decode m_Km_addEntry.2.1 31 = .ok (.iconst 0, 1) := by decide +kernel
theorem d_Km_addEntry_32 : decode m_Km_addEntry.2.1 32 = .ok (.iconst 0, 1) := by decide +kernel
theorem d_Km_addEntry_33 : decode m_Km_addEntry.2.1 33 = .ok (.iconst 0, 1) := by decide +kernel
theorem d_Km_addEntry_34 : decode m_Km_addEntry.2.1 34 = .ok (.aload_n 0, 1) := by decide +kernel
theorem d_Km_addEntry_35 : decode m_Km_addEntry.2.1 35 = .ok (.getfield 9, 3) := by decide +kernel
theorem d_Km_addEntry_38 : decode m_Km_addEntry.2.1 38 = .ok (.getfield 123, 3) := by decide +kernel
theorem d_Km_addEntry_41 : decode m_Km_addEntry.2.1 41 = .ok (.iload_n 1, 1) := by decide +kernel
theorem d_Km_addEntry_42 : decode m_Km_addEntry.2.1 42 = .ok (.iaload, 1) := by decide +kernel
theorem d_Km_addEntry_43 : decode m_Km_addEntry.2.1 43 = .ok (.invokevirtual 126, 3) := by decide +kernel
theorem d_Km_addEntry_46 : decode m_Km_addEntry.2.1 46 = .ok (.goto 37, 3) := by decide +kernel
theorem d_Km_addEntry_49 : decode m_Km_addEntry.2.1 49 = .ok (.aload_n 0, 1) := by decide +kernel
theorem d_Km_addEntry_50 : decode m_Km_addEntry.2.1 50 = .ok (.aload_n 0, 1) := by decide +kernel
theorem d_Km_addEntry_51 : decode m_Km_addEntry.2.1 51 = .ok (.getfield 9, 3) := by decide +kernel
theorem d_Km_addEntry_54 : decode m_Km_addEntry.2.1 54 = .ok (.getfield 123, 3) := by decide +kernel
theorem d_Km_addEntry_57 : decode m_Km_addEntry.2.1 57 = .ok (.iload_n 1, 1) := by decide +kernel
theorem d_Km_addEntry_58 : decode m_Km_addEntry.2.1 58 = .ok (.iaload, 1) := by decide +kernel
theorem d_Km_addEntry_59 : decode m_Km_addEntry.2.1 59 = .ok (.aload_n 0, 1) := by decide +kernel
theorem d_Km_addEntry_60 : decode m_Km_addEntry.2.1 60 = .ok (.getfield 9, 3) := by decide +kernel
theorem d_Km_addEntry_63 : decode m_Km_addEntry.2.1 63 = .ok (.getfield 130, 3) := by decide +kernel
theorem d_Km_addEntry_66 : decode m_Km_addEntry.2.1 66 = .ok (.iload_n 1, 1) := by decide +kernel
theorem d_Km_addEntry_67 : decode m_Km_addEntry.2.1 67 = .ok (.iaload, 1) := by decide +kernel
theorem d_Km_addEntry_68 : decode m_Km_addEntry.2.1 68 = .ok (.aload_n 0, 1) := by decide +kernel
theorem d_Km_addEntry_69 : decode m_Km_addEntry.2.1 69 = .ok (.getfield 9, 3) := by decide +kernel
theorem d_Km_addEntry_72 : decode m_Km_addEntry.2.1 72 = .ok (.getfield 133, 3) := by decide +kernel
theorem d_Km_addEntry_75 : decode m_Km_addEntry.2.1 75 = .ok (.iload_n 1, 1) := by decide +kernel
theorem d_Km_addEntry_76 : decode m_Km_addEntry.2.1 76 = .ok (.iaload, 1) := by decide +kernel
theorem d_Km_addEntry_77 : decode m_Km_addEntry.2.1 77 = .ok (.sipush 1000, 3) := by decide +kernel
theorem d_Km_addEntry_80 : decode m_Km_addEntry.2.1 80 = .ok (.invokevirtual 126, 3) := by decide +kernel
theorem d_Km_addEntry_83 : decode m_Km_addEntry.2.1 83 = .ok (.return_, 1) := by decide +kernel
theorem d_Km_addMark_0 : decode m_Km_addMark.2.1 0 = .ok (.aload_n 0, 1) := by decide +kernel
theorem d_Km_addMark_1 : decode m_Km_addMark.2.1 1 = .ok (.getfield 31, 3) := by decide +kernel
theorem d_Km_addMark_4 : decode m_Km_addMark.2.1 4 = .ok (.ifCond .eq 10, 3) := by decide +kernel
theorem d_Km_addMark_7 : decode m_Km_addMark.2.1 7 = .ok (.aload_n 0, 1) := by decide +kernel
theorem d_Km_addMark_8 : decode m_Km_addMark.2.1 8 = .ok (.getfield 76, 3) := by decide +kernel
theorem d_Km_addMark_11 : decode m_Km_addMark.2.1 11 = .ok (.ifCond .ne 17, 3) := by decide +kernel
theorem d_Km_addMark_14 : decode m_Km_addMark.2.1 14 = .ok (.aload_n 0, 1) := by decide +kernel
theorem d_Km_addMark_15 : decode m_Km_addMark.2.1 15 = .ok (.iconst 0, 1) := by decide +kernel
theorem d_Km_addMark_16 : decode m_Km_addMark.2.1 16 = .ok (.bipush 100, 2) := by decide +kernel
theorem d_Km_addMark_18 : decode m_Km_addMark.2.1 18 = .ok (.iload_n 1, 1) := by decide +kernel
theorem d_Km_addMark_19 : decode m_Km_addMark.2.1 19 = .ok (.iadd, 1) := by decide +kernel
theorem d_Km_addMark_20 : decode m_Km_addMark.2.1 20 = .ok (.bipush 48, 2) := by decide +kernel
theorem d_Km_addMark_22 : decode m_Km_addMark.2.1 22 = .ok (.isub, 1) := by decide +kernel
theorem d_Km_addMark_23 : decode m_Km_addMark.2.1 23 = .ok (.iconst 1, 1) := by decide +kernel
theorem d_Km_addMark_24 : decode m_Km_addMark.2.1 24 = .ok (.iconst 0, 1) := by decide +kernel
theorem d_Km_addMark_25 : decode m_Km_addMark.2.1 25 = .ok (.invokevirtual 126, 3) := by decide +kernel
theorem d_Km_addMark_28 : decode m_Km_addMark.2.1 28 = .ok (.return_, 1) := by decide +kernel
theorem d_Km_addElement_0 : decode m_Km_addElement.2.1 0 = .ok (.aload_n 0, 1) := by decide +kernel
theorem d_Km_addElement_1 : decode m_Km_addElement.2.1 1 = .ok (.getfield 73, 3) := by decide +kernel
theorem d_Km_addElement_4 : decode m_Km_addElement.2.1 4 = .ok (.bipush 12, 2) := by decide +kernel
theorem d_Km_addElement_6 : decode m_Km_addElement.2.1 6 = .ok (.if_icmp .lt 4, 3) := by decide +kernel
theorem d_Km_addElement_9 : decode m_Km_addElement.2.1 9 = .ok (.return_, 1) := by decide +kernel
theorem d_Km_addElement_10 : decode m_Km_addElement.2.1 10 = .ok (.aload_n 0, 1) := by decide +kernel
theorem d_Km_addElement_11 : decode m_Km_addElement.2.1 11 = .ok (.getfield 24, 3) := by decide +kernel
theorem d_Km_addElement_14 : decode m_Km_addElement.2.1 14 = .ok (.iconst 0, 1) := by decide +kernel
theorem d_Km_addElement_15 : decode m_Km_addElement.2.1 15 = .ok (.aaload, 1) := by decide +kernel
theorem d_Km_addElement_16 : decode m_Km_addElement.2.1 16 = .ok (.aload_n 0, 1) := by decide +kernel
theorem d_Km_addElement_17 : decode m_Km_addElement.2.1 17 = .ok (.getfield 73, 3) := by decide +kernel
theorem d_Km_addElement_20 : decode m_Km_addElement.2.1 20 = .ok (.iload_n 1, 1) := by decide +kernel
theorem d_Km_addElement_21 : decode m_Km_addElement.2.1 21 = .ok (.iastore, 1) := by decide +kernel
theorem d_Km_addElement_22 : decode m_Km_addElement.2.1 22 = .ok (.aload_n 0, 1) := by decide +kernel
theorem d_Km_addElement_23 : decode m_Km_addElement.2.1 23 = .ok (.getfield 24, 3) := by decide +kernel
theorem d_Km_addElement_26 : decode m_Km_addElement.2.1 26 = .ok (.iconst 1, 1) := by decide +kernel
theorem d_Km_addElement_27 : decode m_Km_addElement.2.1 27 = .ok (.aaload, 1) := by decide +kernel
theorem d_Km_addElement_28 : decode m_Km_addElement.2.1 28 = .ok (.aload_n 0, 1) := by decide +kernel
theorem d_Km_addElement_29 : decode m_Km_addElement.2.1 29 = .ok (.getfield 73, 3) := by decide +kernel
theorem d_Km_addElement_32 : decode m_Km_addElement.2.1 32 = .ok (.iload_n 2, 1) := by decide +kernel
theorem d_Km_addElement_33 : decode m_Km_addElement.2.1 33 = .ok (.iastore, 1) := by decide +kernel
theorem d_Km_addElement_34 : decode m_Km_addElement.2.1 34 = .ok (.aload_n 0, 1) := by decide +kernel
theorem d_Km_addElement_35 : decode m_Km_addElement.2.1 35 = .ok (.getfield 24, 3) := by decide +kernel
theorem d_Km_addElement_38 : decode m_Km_addElement.2.1 38 = .ok (.iconst 2, 1) := by decide +kernel
theorem d_Km_addElement_39 : decode m_Km_addElement.2.1 39 = .ok (.aaload, 1) := by decide +kernel
theorem d_Km_addElement_40 : decode m_Km_addElement.2.1 40 = .ok (.aload_n 0, 1) := by decide +kernel
theorem d_Km_addElement_41 : decode m_Km_addElement.2.1 41 = .ok (.getfield 73, 3) := by decide +kernel
theorem d_Km_addElement_44 : decode m_Km_addElement.2.1 44 = .ok (.iload_n 3, 1) := by decide +kernel
theorem d_Km_addElement_45 : decode m_Km_addElement.2.1 45 = .ok (.iastore, 1) := by decide +kernel
theorem d_Km_addElement_46 : decode m_Km_addElement.2.1 46 = .ok (.aload_n 0, 1) := by decide +kernel
theorem d_Km_addElement_47 : decode m_Km_addElement.2.1 47 = .ok (.getfield 24, 3) := by decide +kernel
theorem d_Km_addElement_50 : decode m_Km_addElement.2.1 50 = .ok (.iconst 3, 1) := by decide +kernel
theorem d_Km_addElement_51 : decode m_Km_addElement.2.1 51 = .ok (.aaload, 1) := by decide +kernel
theorem d_Km_addElement_52 : decode m_Km_addElement.2.1 52 = .ok (.aload_n 0, 1) := by decide +kernel
theorem d_Km_addElement_53 : decode m_Km_addElement.2.1 53 = .ok (.getfield 73, 3) := by decide +kernel
theorem d_Km_addElement_56 : decode m_Km_addElement.2.1 56 = .ok (.aload_n 0, 1) := by decide +kernel
theorem d_Km_addElement_57 : decode m_Km_addElement.2.1 57 = .ok (.getfield 31, 3) := by decide +kernel
theorem d_Km_addElement_60 : decode m_Km_addElement.2.1 60 = .ok (.ifCond .eq 8, 3) := by decide +kernel
theorem d_Km_addElement_63 : decode m_Km_addElement.2.1 63 = .ok (.iload 4, 2) := by decide +kernel
theorem d_Km_addElement_65 : decode m_Km_addElement.2.1 65 = .ok (.goto 4, 3) := by decide +kernel
theorem d_Km_addElement_68 : decode m_Km_addElement.2.1 68 = .ok (.iconst 0, 1) := by decide +kernel
theorem d_Km_addElement_69 : decode m_Km_addElement.2.1 69 = .ok (.iastore, 1) := by decide +kernel
theorem d_Km_addElement_70 : decode m_Km_addElement.2.1 70 = .ok (.aload_n 0, 1) := by decide +kernel
theorem d_Km_addElement_71 : decode m_Km_addElement.2.1 71 = .ok (.dup, 1) := by decide +kernel
theorem d_Km_addElement_72 : decode m_Km_addElement.2.1 72 = .ok (.getfield 73, 3) := by decide +kernel
theorem d_Km_addElement_75 : decode m_Km_addElement.2.1 75 = .ok (.iconst 1, 1) := by decide +kernel
theorem d_Km_addElement_76 : decode m_Km_addElement.2.1 76 = .ok (.iadd, 1) := by decide +kernel
theorem d_Km_addElement_77 : decode m_Km_addElement.2.1 77 = .ok (.putfield 73, 3) := by decide +kernel
theorem d_Km_addElement_80 : decode m_Km_addElement.2.1 80 = .ok (.return_, 1) := by decide +kernel
theorem d_Km_writeLevel_0 : decode m_Km_writeLevel.2.1 0 = .ok (.aload_n 0, 1) := by decide +kernel
theorem d_Km_writeLevel_1 : decode m_Km_writeLevel.2.1 1 = .ok (.getfield 35, 3) := by decide +kernel
theorem d_Km_writeLevel_4 : decode m_Km_writeLevel.2.1 4 = .ok (.ifCond .eq 12, 3) := by decide +kernel
theorem d_Km_writeLevel_7 : decode m_Km_writeLevel.2.1 7 = .ok (.iload_n 1, 1) := by decide +kernel
theorem d_Km_writeLevel_8 : decode m_Km_writeLevel.2.1 8 = .ok (.iconst 1, 1) := by decide +kernel
theorem d_Km_writeLevel_9 : decode m_Km_writeLevel.2.1 9 = .ok (.if_icmp .ne 7, 3) := by decide +kernel
theorem d_Km_writeLevel_12 : decode m_Km_writeLevel.2.1 12 = .ok (.iconst 1, 1) := by decide +kernel
theorem d_Km_writeLevel_13 : decode m_Km_writeLevel.2.1 13 = .ok (.goto 4, 3) := by decide +kernel
theorem d_Km_writeLevel_16 : decode m_Km_writeLevel.2.1 16 = .ok (.iconst 0, 1) := by decide +kernel
theorem d_Km_writeLevel_17 : decode m_Km_writeLevel.2.1 17 = .ok (.istore_n 3, 1) := by decide +kernel
theorem d_Km_writeLevel_18 : decode m_Km_writeLevel.2.1 18 = .ok (.iconst 0, 1) := by decide +kernel
theorem d_Km_writeLevel_19 : decode m_Km_writeLevel.2.1 19 = .ok (.istore 4, 2) := by decide +kernel
theorem d_Km_writeLevel_21 : decode m_Km_writeLevel.2.1 21 = .ok (.iload 4, 2) := by decide +kernel
theorem d_Km_writeLevel_23 : decode m_Km_writeLevel.2.1 23 = .ok (.aload_n 0, 1) := by decide +kernel
theorem d_Km_writeLevel_24 : decode m_Km_writeLevel.2.1 24 = .ok (.getfield 73, 3) := by decide +kernel
theorem d_Km_writeLevel_27 : decode m_Km_writeLevel.2.1 27 = .ok (.if_icmp .ge 47, 3) := by decide +kernel
theorem d_Km_writeLevel_30 : decode m_Km_writeLevel.2.1 30 = .ok (.aload_n 0, 1) := by decide +kernel
theorem d_Km_writeLevel_31 : decode m_Km_writeLevel.2.1 31 = .ok (.getfield 24, 3) := by decide +kernel
theorem d_Km_writeLevel_34 : decode m_Km_writeLevel.2.1 34 = .ok (.iload_n 1, 1) := by decide +kernel
theorem d_Km_writeLevel_35 : decode m_Km_writeLevel.2.1 35 = .ok (.aaload, 1) := by decide +kernel
theorem d_Km_writeLevel_36 : decode m_Km_writeLevel.2.1 36 = .ok (.iload_n 3, 1) := by decide +kernel
theorem d_Km_writeLevel_37 : decode m_Km_writeLevel.2.1 37 = .ok (.ifCond .eq 15, 3) := by decide +kernel
theorem d_Km_writeLevel_40 : decode m_Km_writeLevel.2.1 40 = .ok (.aload_n 0, 1) := by decide +kernel
theorem d_Km_writeLevel_41 : decode m_Km_writeLevel.2.1 41 = .ok (.getfield 73, 3) := by decide +kernel
theorem d_Km_writeLevel_44 : decode m_Km_writeLevel.2.1 44 = .ok (.iconst 1, 1) := by decide +kernel
theorem d_Km_writeLevel_45 : decode m_Km_writeLevel.2.1 45 = .ok (.isub, 1) := by decide +kernel
theorem d_Km_writeLevel_46 : decode m_Km_writeLevel.2.1 46 = .ok (.iload 4, 2) := by decide +kernel
theorem d_Km_writeLevel_48 : decode m_Km_writeLevel.2.1 48 = .ok (.isub, 1) := by decide +kernel
theorem d_Km_writeLevel_49 : decode m_Km_writeLevel.2.1 49 = .ok (.goto 5, 3) := by decide +kernel
theorem d_Km_writeLevel_52 : decode m_Km_writeLevel.2.1 52 = .ok (.iload 4, 2) := by decide +kernel
theorem d_Km_writeLevel_54 : decode m_Km_writeLevel.2.1 54 = .ok (.iaload, 1) := by decide +kernel
theorem d_Km_writeLevel_55 : decode m_Km_writeLevel.2.1 55 = .ok (.istore 5, 2) := by decide +kernel
theorem d_Km_writeLevel_57 : decode m_Km_writeLevel.2.1 57 = .ok (.iload 5, 2) := by decide +kernel
theorem d_Km_writeLevel_59 : decode m_Km_writeLevel.2.1 59 = .ok (.ifCond .eq 9, 3) := by decide +kernel
theorem d_Km_writeLevel_62 : decode m_Km_writeLevel.2.1 62 = .ok (.aload_n 2, 1) := by decide +kernel
theorem d_Km_writeLevel_63 : decode m_Km_writeLevel.2.1 63 = .ok (.iload 5, 2) := by decide +kernel
theorem d_Km_writeLevel_65 : decode m_Km_writeLevel.2.1 65 = .ok (.invokevirtual 136, 3) := by decide +kernel
theorem d_Km_writeLevel_68 : decode m_Km_writeLevel.2.1 68 = .ok (.iinc 4 1, 3) := by decide +kernel
theorem d_Km_writeLevel_71 : decode m_Km_writeLevel.2.1 71 = .ok (.goto (-50), 3) := by decide +kernel
theorem d_Km_writeLevel_74 : decode m_Km_writeLevel.2.1 74 = .ok (.aload_n 2, 1) := by decide +kernel
theorem d_Km_writeLevel_75 : decode m_Km_writeLevel.2.1 75 = .ok (.iconst 0, 1) := by decide +kernel
theorem d_Km_writeLevel_76 : decode m_Km_writeLevel.2.1 76 = .ok (.invokevirtual 136, 3) := by decide +kernel
theorem d_Km_writeLevel_79 : decode m_Km_writeLevel.2.1 79 = .ok (.return_, 1) := by decide +kernel
