theorem d_Li_init_0 : decode m_Li_init.2.1 0 = .ok (.aload_n 0, 1) := by decide +kernel
theorem d_Li_init_1 : decode m_Li_init.2.1 1 = .ok (.invokespecial 1, 3) := by decide +kernel
theorem d_Li_init_4 : decode m_Li_init.2.1 4 = .ok (.aload_n 0, 1) := by decide +kernel
theorem d_Li_init_5 : decode m_Li_init.2.1 5 = .ok (.iload_n 1, 1) := by decide +kernel
theorem d_Li_init_6 : decode m_Li_init.2.1 6 = .ok (.newarray .char, 2) := by decide +kernel
theorem d_Li_init_8 : decode m_Li_init.2.1 8 = .ok (.putfield 7, 3) := by decide +kernel
theorem d_Li_init_11 : decode m_Li_init.2.1 11 = .ok (.aload_n 0, 1) := by decide +kernel
theorem d_Li_init_12 : decode m_Li_init.2.1 12 = .ok (.iconst 0, 1) := by decide +kernel
theorem d_Li_init_13 : decode m_Li_init.2.1 13 = .ok (.putfield 13, 3) := by decide +kernel
theorem d_Li_init_16 : decode m_Li_init.2.1 16 = .ok (.return_, 1) := by decide +kernel
theorem d_Li_append_0 : decode m_Li_append.2.1 0 = .ok (.aload_n 0, 1) := by decide +kernel
theorem d_Li_append_1 : decode m_Li_append.2.1 1 = .ok (.getfield 13, 3) := by decide +kernel
theorem d_Li_append_4 : decode m_Li_append.2.1 4 = .ok (.aload_n 0, 1) := by decide +kernel
theorem d_Li_append_5 : decode m_Li_append.2.1 5 = .ok (.getfield 7, 3) := by decide +kernel
theorem d_Li_append_8 : decode m_Li_append.2.1 8 = .ok (.arraylength, 1) := by decide +kernel
theorem d_Li_append_9 : decode m_Li_append.2.1 9 = .ok (.if_icmp .lt 5, 3) := by decide +kernel
theorem d_Li_append_12 : decode m_Li_append.2.1 12 = .ok (.iconst 0, 1) := by decide +kernel
theorem d_Li_append_13 : decode m_Li_append.2.1 13 = .ok (.ireturn, 1) := by decide +kernel
theorem d_Li_append_14 : decode m_Li_append.2.1 14 = .ok (.aload_n 0, 1) := by decide +kernel
theorem d_Li_append_15 : decode m_Li_append.2.1 15 = .ok (.getfield 7, 3) := by decide +kernel
theorem d_Li_append_18 : decode m_Li_append.2.1 18 = .ok (.aload_n 0, 1) := by decide +kernel
theorem d_Li_append_19 : decode m_Li_append.2.1 19 = .ok (.getfield 13, 3) := by decide +kernel
theorem d_Li_append_22 : decode m_Li_append.2.1 22 = .ok (.iload_n 1, 1) := by decide +kernel
theorem d_Li_append_23 : decode m_Li_append.2.1 23 = .ok (.castore, 1) := by decide +kernel
theorem d_Li_append_24 : decode m_Li_append.2.1 24 = .ok (.aload_n 0, 1) := by decide +kernel
theorem d_Li_append_25 : decode m_Li_append.2.1 25 = .ok (.dup, 1) := by decide +kernel
theorem d_Li_append_26 : decode m_Li_append.2.1 26 = .ok (.getfield 13, 3) := by decide +kernel
theorem d_Li_append_29 : decode m_Li_append.2.1 29 = .ok (.iconst 1, 1) := by decide +kernel
theorem d_Li_append_30 : decode m_Li_append.2.1 30 = .ok (.iadd, 1) := by decide +kernel
theorem d_Li_append_31 : decode m_Li_append.2.1 31 = .ok (.putfield 13, 3) := by decide +kernel
theorem d_Li_append_34 : decode m_Li_append.2.1 34 = .ok (.iconst 1, 1) := by decide +kernel
theorem d_Li_append_35 : decode m_Li_append.2.1 35 = .ok (.ireturn, 1) := by decide +kernel
theorem d_Li_clear_0 : decode m_Li_clear.2.1 0 = .ok (.aload_n 0, 1) := by decide +kernel
theorem d_Li_clear_1 : decode m_Li_clear.2.1 1 = .ok (.getfield 13, 3) := by decide +kernel
theorem d_Li_clear_4 : decode m_Li_clear.2.1 4 = .ok (.istore_n 1, 1) := by decide +kernel
theorem d_Li_clear_5 : decode m_Li_clear.2.1 5 = .ok (.aload_n 0, 1) := by decide +kernel
theorem d_Li_clear_6 : decode m_Li_clear.2.1 6 = .ok (.iconst 0, 1) := by decide +kernel
theorem d_Li_clear_7 : decode m_Li_clear.2.1 7 = .ok (.putfield 13, 3) := by decide +kernel
theorem d_Li_clear_10 : decode m_Li_clear.2.1 10 = .ok (.iload_n 1, 1) := by decide +kernel
theorem d_Li_clear_11 : decode m_Li_clear.2.1 11 = .ok (.ireturn, 1) := by decide +kernel
theorem d_Li_copyFrom_0 : decode m_Li_copyFrom.2.1 0 = .ok (.aload_n 0, 1) := by decide +kernel
theorem d_Li_copyFrom_1 : decode m_Li_copyFrom.2.1 1 = .ok (.invokevirtual 17, 3) := by decide +kernel
theorem d_Li_copyFrom_4 : decode m_Li_copyFrom.2.1 4 = .ok (.pop, 1) := by decide +kernel
theorem d_Li_copyFrom_5 : decode m_Li_copyFrom.2.1 5 = .ok (.iconst 0, 1) := by decide +kernel
theorem d_Li_copyFrom_6 : decode m_Li_copyFrom.2.1 6 = .ok (.istore_n 2, 1) := by decide +kernel
theorem d_Li_copyFrom_7 : decode m_Li_copyFrom.2.1 7 = .ok (.iload_n 2, 1) := by decide +kernel
theorem d_Li_copyFrom_8 : decode m_Li_copyFrom.2.1 8 = .ok (.aload_n 1, 1) := by decide +kernel
theorem d_Li_copyFrom_9 : decode m_Li_copyFrom.2.1 9 = .ok (.getfield 13, 3) := by decide +kernel
theorem d_Li_copyFrom_12 : decode m_Li_copyFrom.2.1 12 = .ok (.if_icmp .ge 20, 3) := by decide +kernel
theorem d_Li_copyFrom_15 : decode m_Li_copyFrom.2.1 15 = .ok (.aload_n 0, 1) := by decide +kernel
theorem d_Li_copyFrom_16 : decode m_Li_copyFrom.2.1 16 = .ok (.aload_n 1, 1) := by decide +kernel
theorem d_Li_copyFrom_17 : decode m_Li_copyFrom.2.1 17 = .ok (.getfield 7, 3) := by decide +kernel
theorem d_Li_copyFrom_20 : decode m_Li_copyFrom.2.1 20 = .ok (.iload_n 2, 1) := by decide +kernel
theorem d_Li_copyFrom_21 : decode m_Li_copyFrom.2.1 21 = .ok (.caload, 1) := by decide +kernel
theorem d_Li_copyFrom_22 : decode m_Li_copyFrom.2.1 22 = .ok (.invokevirtual 21, 3) := by decide +kernel
theorem d_Li_copyFrom_25 : decode m_Li_copyFrom.2.1 25 = .ok (.pop, 1) := by decide +kernel
theorem d_Li_copyFrom_26 : decode m_Li_copyFrom.2.1 26 = .ok (.iinc 2 1, 3) := by decide +kernel
theorem d_Li_copyFrom_29 : decode m_Li_copyFrom.2.1 29 = .ok (.goto (-22), 3) := by decide +kernel
theorem d_Li_copyFrom_32 : decode m_Li_copyFrom.2.1 32 = .ok (.return_, 1) := by decide +kernel
theorem d_Ke_init_0 : decode m_Ke_init.2.1 0 = .ok (.aload_n 0, 1) := by decide +kernel
theorem d_Ke_init_1 : decode m_Ke_init.2.1 1 = .ok (.invokespecial 3, 3) := by decide +kernel
theorem d_Ke_init_4 : decode m_Ke_init.2.1 4 = .ok (.aload_n 0, 1) := by decide +kernel
theorem d_Ke_init_5 : decode m_Ke_init.2.1 5 = .ok (.bipush 52, 2) := by decide +kernel
theorem d_Ke_init_7 : decode m_Ke_init.2.1 7 = .ok (.newarray .int, 2) := by decide +kernel
theorem d_Ke_init_9 : decode m_Ke_init.2.1 9 = .ok (.putfield 9, 3) := by decide +kernel
theorem d_Ke_init_12 : decode m_Ke_init.2.1 12 = .ok (.aload_n 0, 1) := by decide +kernel
theorem d_Ke_init_13 : decode m_Ke_init.2.1 13 = .ok (.iconst 0, 1) := by decide +kernel
theorem d_Ke_init_14 : decode m_Ke_init.2.1 14 = .ok (.putfield 15, 3) := by decide +kernel
theorem d_Ke_init_17 : decode m_Ke_init.2.1 17 = .ok (.return_, 1) := by decide +kernel
theorem d_Ke_add_0 : decode m_Ke_add.2.1 0 = .ok (.aload_n 0, 1) := by decide +kernel
theorem d_Ke_add_1 : decode m_Ke_add.2.1 1 = .ok (.getfield 15, 3) := by decide +kernel
theorem d_Ke_add_4 : decode m_Ke_add.2.1 4 = .ok (.aload_n 0, 1) := by decide +kernel
theorem d_Ke_add_5 : decode m_Ke_add.2.1 5 = .ok (.getfield 9, 3) := by decide +kernel
theorem d_Ke_add_8 : decode m_Ke_add.2.1 8 = .ok (.arraylength, 1) := by decide +kernel
theorem d_Ke_add_9 : decode m_Ke_add.2.1 9 = .ok (.if_icmp .ge 23, 3) := by decide +kernel
theorem d_Ke_add_12 : decode m_Ke_add.2.1 12 = .ok (.aload_n 0, 1) := by decide +kernel
theorem d_Ke_add_13 : decode m_Ke_add.2.1 13 = .ok (.getfield 9, 3) := by decide +kernel
theorem d_Ke_add_16 : decode m_Ke_add.2.1 16 = .ok (.aload_n 0, 1) := by decide +kernel
theorem d_Ke_add_17 : decode m_Ke_add.2.1 17 = .ok (.getfield 15, 3) := by decide +kernel
theorem d_Ke_add_20 : decode m_Ke_add.2.1 20 = .ok (.iload_n 1, 1) := by decide +kernel
theorem d_Ke_add_21 : decode m_Ke_add.2.1 21 = .ok (.iastore, 1) := by decide +kernel
theorem d_Ke_add_22 : decode m_Ke_add.2.1 22 = .ok (.aload_n 0, 1) := by decide +kernel
theorem d_Ke_add_23 : decode m_Ke_add.2.1 23 = .ok (.dup, 1) := by decide +kernel
theorem d_Ke_add_24 : decode m_Ke_add.2.1 24 = .ok (.getfield 15, 3) := by decide +kernel
theorem d_Ke_add_27 : decode m_Ke_add.2.1 27 = .ok (.iconst 1, 1) := by decide +kernel
theorem d_Ke_add_28 : decode m_Ke_add.2.1 28 = .ok (.iadd, 1) := by decide +kernel
theorem d_Ke_add_29 : decode m_Ke_add.2.1 29 = .ok (.putfield 15, 3) := by decide +kernel
theorem d_Ke_add_32 : decode m_Ke_add.2.1 32 = .ok (.return_, 1) := by decide +kernel
theorem d_Ke_against_0 : decode m_Ke_against.2.1 0 = .ok (.aload_n 0, 1) := by decide +kernel
theorem d_Ke_against_1 : decode m_Ke_against.2.1 1 = .ok (.getfield 15, 3) := by decide +kernel
theorem d_Ke_against_4 : decode m_Ke_against.2.1 4 = .ok (.aload_n 1, 1) := by decide +kernel
theorem d_Ke_against_5 : decode m_Ke_against.2.1 5 = .ok (.getfield 15, 3) := by decide +kernel
theorem d_Ke_against_8 : decode m_Ke_against.2.1 8 = .ok (.invokestatic 19, 3) := by decide +kernel
theorem d_Ke_against_11 : decode m_Ke_against.2.1 11 = .ok (.istore_n 2, 1) := by decide +kernel
theorem d_Ke_against_12 : decode m_Ke_against.2.1 12 = .ok (.iconst 0, 1) := by decide +kernel
theorem d_Ke_against_13 : decode m_Ke_against.2.1 13 = .ok (.istore_n 3, 1) := by decide +kernel
theorem d_Ke_against_14 : decode m_Ke_against.2.1 14 = .ok (.iload_n 3, 1) := by decide +kernel
theorem d_Ke_against_15 : decode m_Ke_against.2.1 15 = .ok (.iload_n 2, 1) := by decide +kernel
theorem d_Ke_against_16 : decode m_Ke_against.2.1 16 = .ok (.if_icmp .ge 45, 3) := by decide +kernel
theorem d_Ke_against_19 : decode m_Ke_against.2.1 19 = .ok (.aload_n 0, 1) := by decide +kernel
theorem d_Ke_against_20 : decode m_Ke_against.2.1 20 = .ok (.getfield 9, 3) := by decide +kernel
theorem d_Ke_against_23 : decode m_Ke_against.2.1 23 = .ok (.iload_n 3, 1) := by decide +kernel
theorem d_Ke_against_24 : decode m_Ke_against.2.1 24 = .ok (.iaload, 1) := by decide +kernel
theorem d_Ke_against_25 : decode m_Ke_against.2.1 25 = .ok (.aload_n 1, 1) := by decide +kernel
theorem d_Ke_against_26 : decode m_Ke_against.2.1 26 = .ok (.getfield 9, 3) := by decide +kernel
theorem d_Ke_against_29 : decode m_Ke_against.2.1 29 = .ok (.iload_n 3, 1) := by decide +kernel
theorem d_Ke_against_30 : decode m_Ke_against.2.1 30 = .ok (.iaload, 1) := by decide +kernel
theorem d_Ke_against_31 : decode m_Ke_against.2.1 31 = .ok (.if_icmp .eq 24, 3) := by decide +kernel
theorem d_Ke_against_34 : decode m_Ke_against.2.1 34 = .ok (.aload_n 0, 1) := by decide +kernel
theorem d_Ke_against_35 : decode m_Ke_against.2.1 35 = .ok (.getfield 9, 3) := by decide +kernel
theorem d_Ke_against_38 : decode m_Ke_against.2.1 38 = .ok (.iload_n 3, 1) := by decide +kernel
theorem d_Ke_against_39 : decode m_Ke_against.2.1 39 = .ok (.iaload, 1) := by decide +kernel
theorem d_Ke_against_40 : decode m_Ke_against.2.1 40 = .ok (.aload_n 1, 1) := by decide +kernel
theorem d_Ke_against_41 : decode m_Ke_against.2.1 41 = .ok (.getfield 9, 3) := by decide +kernel
theorem d_Ke_against_44 : decode m_Ke_against.2.1 44 = .ok (.iload_n 3, 1) := by decide +kernel
theorem d_Ke_against_45 : decode m_Ke_against.2.1 45 = .ok (.iaload, 1) := by decide +kernel
theorem d_Ke_against_46 : decode m_Ke_against.2.1 46 = .ok (.if_icmp .ge 7, 3) := by decide +kernel
theorem d_Ke_against_49 : decode m_Ke_against.2.1 49 = .ok (.iconst (-1), 1) := by decide +kernel
theorem d_Ke_against_50 : decode m_Ke_against.2.1 50 = .ok (.goto 4, 3) := by decide +kernel
theorem d_Ke_against_53 : decode m_Ke_against.2.1 53 = .ok (.iconst 1, 1) := by decide +kernel
theorem d_Ke_against_54 : decode m_Ke_against.2.1 54 = .ok (.ireturn, 1) := by decide +kernel
theorem d_Ke_against_55 : decode m_Ke_against.2.1 55 = .ok (.iinc 3 1, 3) := by decide +kernel
theorem d_Ke_against_58 : decode m_Ke_against.2.1 58 = .ok (.goto (-44), 3) := by decide +kernel
theorem d_Ke_against_61 : decode m_Ke_against.2.1 61 = .ok (.iconst 0, 1) := by decide +kernel
theorem d_Ke_against_62 : decode m_Ke_against.2.1 62 = .ok (.ireturn, 1) := by decide +kernel
theorem d_Fo_init_0 : decode m_Fo_init.2.1 0 = .ok (.aload_n 0, 1) := by decide +kernel
theorem d_Fo_init_1 : decode m_Fo_init.2.1 1 = .ok (.invokespecial 3, 3) := by decide +kernel
theorem d_Fo_init_4 : decode m_Fo_init.2.1 4 = .ok (.aload_n 0, 1) := by decide +kernel
theorem d_Fo_init_5 : decode m_Fo_init.2.1 5 = .ok (.bipush 10, 2) := by decide +kernel
theorem d_Fo_init_7 : decode m_Fo_init.2.1 7 = .ok (.anewarray 9, 3) := by decide +kernel
theorem d_Fo_init_10 : decode m_Fo_init.2.1 10 = .ok (.putfield 11, 3) := by decide +kernel
theorem d_Fo_init_13 : decode m_Fo_init.2.1 13 = .ok (.aload_n 0, 1) := by decide +kernel
theorem d_Fo_init_14 : decode m_Fo_init.2.1 14 = .ok (.bipush 10, 2) := by decide +kernel
theorem d_Fo_init_16 : decode m_Fo_init.2.1 16 = .ok (.newarray .int, 2) := by decide +kernel
theorem d_Fo_init_18 : decode m_Fo_init.2.1 18 = .ok (.putfield 17, 3) := by decide +kernel
theorem d_Fo_init_21 : decode m_Fo_init.2.1 21 = .ok (.aload_n 0, 1) := by decide +kernel
theorem d_Fo_init_22 : decode m_Fo_init.2.1 22 = .ok (.bipush 10, 2) := by decide +kernel
theorem d_Fo_init_24 : decode m_Fo_init.2.1 24 = .ok (.anewarray 21, 3) := by decide +kernel
theorem d_Fo_init_27 : decode m_Fo_init.2.1 27 = .ok (.putfield 23, 3) := by decide +kernel
theorem d_Fo_init_30 : decode m_Fo_init.2.1 30 = .ok (.iconst 0, 1) := by decide +kernel
theorem d_Fo_init_31 : decode m_Fo_init.2.1 31 = .ok (.istore_n 1, 1) := by decide +kernel
theorem d_Fo_init_32 : decode m_Fo_init.2.1 32 = .ok (.iload_n 1, 1) := by decide +kernel
theorem d_Fo_init_33 : decode m_Fo_init.2.1 33 = .ok (.bipush 10, 2) := by decide +kernel
theorem d_Fo_init_35 : decode m_Fo_init.2.1 35 = .ok (.if_icmp .ge 37, 3) := by decide +kernel
theorem d_Fo_init_38 : decode m_Fo_init.2.1 38 = .ok (.aload_n 0, 1) := by decide +kernel
theorem d_Fo_init_39 : decode m_Fo_init.2.1 39 = .ok (.getfield 11, 3) := by decide +kernel
theorem d_Fo_init_42 : decode m_Fo_init.2.1 42 = .ok (.iload_n 1, 1) := by decide +kernel
theorem d_Fo_init_43 : decode m_Fo_init.2.1 43 = .ok (.new 9, 3) := by decide +kernel
theorem d_Fo_init_46 : decode m_Fo_init.2.1 46 = .ok (.dup, 1) := by decide +kernel
theorem d_Fo_init_47 : decode m_Fo_init.2.1 47 = .ok (.bipush 12, 2) := by decide +kernel
theorem d_Fo_init_49 : decode m_Fo_init.2.1 49 = .ok (.invokespecial 27, 3) := by decide +kernel
theorem d_Fo_init_52 : decode m_Fo_init.2.1 52 = .ok (.aastore, 1) := by decide +kernel
theorem d_Fo_init_53 : decode m_Fo_init.2.1 53 = .ok (.aload_n 0, 1) := by decide +kernel
theorem d_Fo_init_54 : decode m_Fo_init.2.1 54 = .ok (.getfield 23, 3) := by decide +kernel
theorem d_Fo_init_57 : decode m_Fo_init.2.1 57 = .ok (.iload_n 1, 1) := by decide +kernel
theorem d_Fo_init_58 : decode m_Fo_init.2.1 58 = .ok (.new 21, 3) := by decide +kernel
theorem d_Fo_init_61 : decode m_Fo_init.2.1 61 = .ok (.dup, 1) := by decide +kernel
theorem d_Fo_init_62 : decode m_Fo_init.2.1 62 = .ok (.invokespecial 30, 3) := by decide +kernel
theorem d_Fo_init_65 : decode m_Fo_init.2.1 65 = .ok (.aastore, 1) := by decide +kernel
theorem d_Fo_init_66 : decode m_Fo_init.2.1 66 = .ok (.iinc 1 1, 3) := by decide +kernel
theorem d_Fo_init_69 : decode m_Fo_init.2.1 69 = .ok (.goto (-37), 3) := by decide +kernel
theorem d_Fo_init_72 : decode m_Fo_init.2.1 72 = .ok (.aload_n 0, 1) := by decide +kernel
theorem d_Fo_init_73 : decode m_Fo_init.2.1 73 = .ok (.iconst 0, 1) := by decide +kernel
theorem d_Fo_init_74 : decode m_Fo_init.2.1 74 = .ok (.putfield 31, 3) := by decide +kernel
theorem d_Fo_init_77 : decode m_Fo_init.2.1 77 = .ok (.aload_n 0, 1) := by decide +kernel
theorem d_Fo_init_78 : decode m_Fo_init.2.1 78 = .ok (.iconst 0, 1) := by decide +kernel
theorem d_Fo_init_79 : decode m_Fo_init.2.1 79 = .ok (.putfield 35, 3) := by decide +kernel
theorem d_Fo_init_82 : decode m_Fo_init.2.1 82 = .ok (.return_, 1) := by decide +kernel
theorem d_Fo_add_0 : decode m_Fo_add.2.1 0 = .ok (.aload_n 0, 1) := by decide +kernel
theorem d_Fo_add_1 : decode m_Fo_add.2.1 1 = .ok (.getfield 31, 3) := by decide +kernel
theorem d_Fo_add_4 : decode m_Fo_add.2.1 4 = .ok (.bipush 10, 2) := by decide +kernel
theorem d_Fo_add_6 : decode m_Fo_add.2.1 6 = .ok (.if_icmp .lt 5, 3) := by decide +kernel
theorem d_Fo_add_9 : decode m_Fo_add.2.1 9 = .ok (.iconst (-1), 1) := by decide +kernel
theorem d_Fo_add_10 : decode m_Fo_add.2.1 10 = .ok (.ireturn, 1) := by decide +kernel
theorem d_Fo_add_11 : decode m_Fo_add.2.1 11 = .ok (.aload_n 0, 1) := by decide +kernel
theorem d_Fo_add_12 : decode m_Fo_add.2.1 12 = .ok (.getfield 35, 3) := by decide +kernel
theorem d_Fo_add_15 : decode m_Fo_add.2.1 15 = .ok (.istore_n 2, 1) := by decide +kernel
theorem d_Fo_add_16 : decode m_Fo_add.2.1 16 = .ok (.aload_n 0, 1) := by decide +kernel
theorem d_Fo_add_17 : decode m_Fo_add.2.1 17 = .ok (.dup, 1) := by decide +kernel
theorem d_Fo_add_18 : decode m_Fo_add.2.1 18 = .ok (.getfield 35, 3) := by decide +kernel
theorem d_Fo_add_21 : decode m_Fo_add.2.1 21 = .ok (.iconst 1, 1) := by decide +kernel
theorem d_Fo_add_22 : decode m_Fo_add.2.1 22 = .ok (.iadd, 1) := by decide +kernel
theorem d_Fo_add_23 : decode m_Fo_add.2.1 23 = .ok (.putfield 35, 3) := by decide +kernel
theorem d_Fo_add_26 : decode m_Fo_add.2.1 26 = .ok (.aload_n 0, 1) := by decide +kernel
theorem d_Fo_add_27 : decode m_Fo_add.2.1 27 = .ok (.getfield 11, 3) := by decide +kernel
theorem d_Fo_add_30 : decode m_Fo_add.2.1 30 = .ok (.aload_n 0, 1) := by decide +kernel
theorem d_Fo_add_31 : decode m_Fo_add.2.1 31 = .ok (.getfield 31, 3) := by decide +kernel
theorem d_Fo_add_34 : decode m_Fo_add.2.1 34 = .ok (.aaload, 1) := by decide +kernel
theorem d_Fo_add_35 : decode m_Fo_add.2.1 35 = .ok (.aload_n 1, 1) := by decide +kernel
theorem d_Fo_add_36 : decode m_Fo_add.2.1 36 = .ok (.invokevirtual 38, 3) := by decide +kernel
theorem d_Fo_add_39 : decode m_Fo_add.2.1 39 = .ok (.aload_n 0, 1) := by decide +kernel
theorem d_Fo_add_40 : decode m_Fo_add.2.1 40 = .ok (.getfield 17, 3) := by decide +kernel
theorem d_Fo_add_43 : decode m_Fo_add.2.1 43 = .ok (.aload_n 0, 1) := by decide +kernel
theorem d_Fo_add_44 : decode m_Fo_add.2.1 44 = .ok (.getfield 31, 3) := by decide +kernel
theorem d_Fo_add_47 : decode m_Fo_add.2.1 47 = .ok (.iload_n 2, 1) := by decide +kernel
theorem d_Fo_add_48 : decode m_Fo_add.2.1 48 = .ok (.iastore, 1) := by decide +kernel
theorem d_Fo_add_49 : decode m_Fo_add.2.1 49 = .ok (.aload_n 0, 1) := by decide +kernel
theorem d_Fo_add_50 : decode m_Fo_add.2.1 50 = .ok (.dup, 1) := by decide +kernel
theorem d_Fo_add_51 : decode m_Fo_add.2.1 51 = .ok (.getfield 31, 3) := by decide +kernel
theorem d_Fo_add_54 : decode m_Fo_add.2.1 54 = .ok (.iconst 1, 1) := by decide +kernel
theorem d_Fo_add_55 : decode m_Fo_add.2.1 55 = .ok (.iadd, 1) := by decide +kernel
theorem d_Fo_add_56 : decode m_Fo_add.2.1 56 = .ok (.putfield 31, 3) := by decide +kernel
theorem d_Fo_add_59 : decode m_Fo_add.2.1 59 = .ok (.iload_n 2, 1) := by decide +kernel
theorem d_Fo_add_60 : decode m_Fo_add.2.1 60 = .ok (.ireturn, 1) := by decide +kernel
theorem d_Fo_remove_0 : decode m_Fo_remove.2.1 0 = .ok (.iconst 0, 1) := by decide +kernel
theorem d_Fo_remove_1 : decode m_Fo_remove.2.1 1 = .ok (.istore_n 2, 1) := by decide +kernel
theorem d_Fo_remove_2 : decode m_Fo_remove.2.1 2 = .ok (.iload_n 2, 1) := by decide +kernel
theorem d_Fo_remove_3 : decode m_Fo_remove.2.1 3 = .ok (.aload_n 0, 1) := by decide +kernel
theorem d_Fo_remove_4 : decode m_Fo_remove.2.1 4 = .ok (.getfield 31, 3) := by decide +kernel
theorem d_Fo_remove_7 : decode m_Fo_remove.2.1 7 = .ok (.if_icmp .ge 26, 3) := by decide +kernel
theorem d_Fo_remove_10 : decode m_Fo_remove.2.1 10 = .ok (.aload_n 0, 1) := by decide +kernel
theorem d_Fo_remove_11 : decode m_Fo_remove.2.1 11 = .ok (.getfield 17, 3) := by decide +kernel
theorem d_Fo_remove_14 : decode m_Fo_remove.2.1 14 = .ok (.iload_n 2, 1) := by decide +kernel
theorem d_Fo_remove_15 : decode m_Fo_remove.2.1 15 = .ok (.iaload, 1) := by decide +kernel
theorem d_Fo_remove_16 : decode m_Fo_remove.2.1 16 = .ok (.iload_n 1, 1) := by decide +kernel
theorem d_Fo_remove_17 : decode m_Fo_remove.2.1 17 = .ok (.if_icmp .ne 10, 3) := by decide +kernel
theorem d_Fo_remove_20 : decode m_Fo_remove.2.1 20 = .ok (.aload_n 0, 1) := by decide +kernel
theorem d_Fo_remove_21 : decode m_Fo_remove.2.1 21 = .ok (.iload_n 2, 1) := by decide +kernel
theorem d_Fo_remove_22 : decode m_Fo_remove.2.1 22 = .ok (.invokevirtual 42, 3) := by decide +kernel
theorem d_Fo_remove_25 : decode m_Fo_remove.2.1 25 = .ok (.iconst 1, 1) := by decide +kernel
theorem d_Fo_remove_26 : decode m_Fo_remove.2.1 26 = .ok (.ireturn, 1) := by decide +kernel
theorem d_Fo_remove_27 : decode m_Fo_remove.2.1 27 = .ok (.iinc 2 1, 3) := by decide +kernel
theorem d_Fo_remove_30 : decode m_Fo_remove.2.1 30 = .ok (.goto (-28), 3) := by decide +kernel
theorem d_Fo_remove_33 : decode m_Fo_remove.2.1 33 = .ok (.iconst 0, 1) := by decide +kernel
theorem d_Fo_remove_34 : decode m_Fo_remove.2.1 34 = .ok (.ireturn, 1) := by decide +kernel
theorem d_Fo_closeUp_0 : decode m_Fo_closeUp.2.1 0 = .ok (.iload_n 1, 1) := by decide +kernel
theorem d_Fo_closeUp_1 : decode m_Fo_closeUp.2.1 1 = .ok (.iconst 1, 1) := by decide +kernel
theorem d_Fo_closeUp_2 : decode m_Fo_closeUp.2.1 2 = .ok (.iadd, 1) := by decide +kernel
theorem d_Fo_closeUp_3 : decode m_Fo_closeUp.2.1 3 = .ok (.istore_n 2, 1) := by decide +kernel
theorem d_Fo_closeUp_4 : decode m_Fo_closeUp.2.1 4 = .ok (.iload_n 2, 1) := by decide +kernel
theorem d_Fo_closeUp_5 : decode m_Fo_closeUp.2.1 5 = .ok (.aload_n 0, 1) := by decide +kernel
theorem d_Fo_closeUp_6 : decode m_Fo_closeUp.2.1 6 = .ok (.getfield 31, 3) := by decide +kernel
theorem d_Fo_closeUp_9 : decode m_Fo_closeUp.2.1 9 = .ok (.if_icmp .ge 40, 3) := by decide +kernel
theorem d_Fo_closeUp_12 : decode m_Fo_closeUp.2.1 12 = .ok (.aload_n 0, 1) := by decide +kernel
theorem d_Fo_closeUp_13 : decode m_Fo_closeUp.2.1 13 = .ok (.getfield 17, 3) := by decide +kernel
theorem d_Fo_closeUp_16 : decode m_Fo_closeUp.2.1 16 = .ok (.iload_n 2, 1) := by decide +kernel
theorem d_Fo_closeUp_17 : decode m_Fo_closeUp.2.1 17 = .ok (.iconst 1, 1) := by decide +kernel
theorem d_Fo_closeUp_18 : decode m_Fo_closeUp.2.1 18 = .ok (.isub, 1) := by decide +kernel
theorem d_Fo_closeUp_19 : decode m_Fo_closeUp.2.1 19 = .ok (.aload_n 0, 1) := by decide +kernel
theorem d_Fo_closeUp_20 : decode m_Fo_closeUp.2.1 20 = .ok (.getfield 17, 3) := by decide +kernel
theorem d_Fo_closeUp_23 : decode m_Fo_closeUp.2.1 23 = .ok (.iload_n 2, 1) := by decide +kernel
theorem d_Fo_closeUp_24 : decode m_Fo_closeUp.2.1 24 = .ok (.iaload, 1) := by decide +kernel
theorem d_Fo_closeUp_25 : decode m_Fo_closeUp.2.1 25 = .ok (.iastore, 1) := by decide +kernel
theorem d_Fo_closeUp_26 : decode m_Fo_closeUp.2.1 26 = .ok (.aload_n 0, 1) := by decide +kernel
theorem d_Fo_closeUp_27 : decode m_Fo_closeUp.2.1 27 = .ok (.getfield 11, 3) := by decide +kernel
theorem d_Fo_closeUp_30 : decode m_Fo_closeUp.2.1 30 = .ok (.iload_n 2, 1) := by decide +kernel
theorem d_Fo_closeUp_31 : decode m_Fo_closeUp.2.1 31 = .ok (.iconst 1, 1) := by decide +kernel
theorem d_Fo_closeUp_32 : decode m_Fo_closeUp.2.1 32 = .ok (.isub, 1) := by decide +kernel
theorem d_Fo_closeUp_33 : decode m_Fo_closeUp.2.1 33 = .ok (.aaload, 1) := by decide +kernel
theorem d_Fo_closeUp_34 : decode m_Fo_closeUp.2.1 34 = .ok (.aload_n 0, 1) := by decide +kernel
theorem d_Fo_closeUp_35 : decode m_Fo_closeUp.2.1 35 = .ok (.getfield 11, 3) := by decide +kernel
theorem d_Fo_closeUp_38 : decode m_Fo_closeUp.2.1 38 = .ok (.iload_n 2, 1) := by decide +kernel
theorem d_Fo_closeUp_39 : decode m_Fo_closeUp.2.1 39 = .ok (.aaload, 1) := by decide +kernel
theorem d_Fo_closeUp_40 : decode m_Fo_closeUp.2.1 40 = .ok (.invokevirtual 38, 3) := by decide +kernel
theorem d_Fo_closeUp_43 : decode m_Fo_closeUp.2.1 43 = .ok (.iinc 2 1, 3) := by decide +kernel
theorem d_Fo_closeUp_46 : decode m_Fo_closeUp.2.1 46 = .ok (.goto (-42), 3) := by decide +kernel
theorem d_Fo_closeUp_49 : decode m_Fo_closeUp.2.1 49 = .ok (.aload_n 0, 1) := by decide +kernel
theorem d_Fo_closeUp_50 : decode m_Fo_closeUp.2.1 50 = .ok (.dup, 1) := by decide +kernel
theorem d_Fo_closeUp_51 : decode m_Fo_closeUp.2.1 51 = .ok (.getfield 31, 3) := by decide +kernel
theorem d_Fo_closeUp_54 : decode m_Fo_closeUp.2.1 54 = .ok (.iconst 1, 1) := by decide +kernel
theorem d_Fo_closeUp_55 : decode m_Fo_closeUp.2.1 55 = .ok (.isub, 1) := by decide +kernel
theorem d_Fo_closeUp_56 : decode m_Fo_closeUp.2.1 56 = .ok (.putfield 31, 3) := by decide +kernel
theorem d_Fo_closeUp_59 : decode m_Fo_closeUp.2.1 59 = .ok (.return_, 1) := by decide +kernel
theorem d_Fo_numberAt_0 : decode m_Fo_numberAt.2.1 0 = .ok (.iconst 0, 1) := by decide +kernel
theorem d_Fo_numberAt_1 : decode m_Fo_numberAt.2.1 1 = .ok (.istore_n 2, 1) := by decide +kernel
theorem d_Fo_numberAt_2 : decode m_Fo_numberAt.2.1 2 = .ok (.iload_n 2, 1) := by decide +kernel
theorem d_Fo_numberAt_3 : decode m_Fo_numberAt.2.1 3 = .ok (.aload_n 0, 1) := by decide +kernel
theorem d_Fo_numberAt_4 : decode m_Fo_numberAt.2.1 4 = .ok (.getfield 31, 3) := by decide +kernel
theorem d_Fo_numberAt_7 : decode m_Fo_numberAt.2.1 7 = .ok (.if_icmp .ge 25, 3) := by decide +kernel
theorem d_Fo_numberAt_10 : decode m_Fo_numberAt.2.1 10 = .ok (.aload_n 0, 1) := by decide +kernel
theorem d_Fo_numberAt_11 : decode m_Fo_numberAt.2.1 11 = .ok (.iload_n 2, 1) := by decide +kernel
theorem d_Fo_numberAt_12 : decode m_Fo_numberAt.2.1 12 = .ok (.invokevirtual 45, 3) := by decide +kernel
theorem d_Fo_numberAt_15 : decode m_Fo_numberAt.2.1 15 = .ok (.iload_n 1, 1) := by decide +kernel
theorem d_Fo_numberAt_16 : decode m_Fo_numberAt.2.1 16 = .ok (.if_icmp .ne 10, 3) := by decide +kernel
theorem d_Fo_numberAt_19 : decode m_Fo_numberAt.2.1 19 = .ok (.aload_n 0, 1) := by decide +kernel
theorem d_Fo_numberAt_20 : decode m_Fo_numberAt.2.1 20 = .ok (.getfield 17, 3) := by decide +kernel
theorem d_Fo_numberAt_23 : decode m_Fo_numberAt.2.1 23 = .ok (.iload_n 2, 1) := by decide +kernel
theorem d_Fo_numberAt_24 : decode m_Fo_numberAt.2.1 24 = .ok (.iaload, 1) := by decide +kernel
theorem d_Fo_numberAt_25 : decode m_Fo_numberAt.2.1 25 = .ok (.ireturn, 1) := by decide +kernel
theorem d_Fo_numberAt_26 : decode m_Fo_numberAt.2.1 26 = .ok (.iinc 2 1, 3) := by decide +kernel
theorem d_Fo_numberAt_29 : decode m_Fo_numberAt.2.1 29 = .ok (.goto (-27), 3) := by decide +kernel
theorem d_Fo_numberAt_32 : decode m_Fo_numberAt.2.1 32 = .ok (.iconst (-1), 1) := by decide +kernel
theorem d_Fo_numberAt_33 : decode m_Fo_numberAt.2.1 33 = .ok (.ireturn, 1) := by decide +kernel
theorem d_Fo_placeOf_0 : decode m_Fo_placeOf.2.1 0 = .ok (.aload_n 0, 1) := by decide +kernel
theorem d_Fo_placeOf_1 : decode m_Fo_placeOf.2.1 1 = .ok (.aload_n 0, 1) := by decide +kernel
theorem d_Fo_placeOf_2 : decode m_Fo_placeOf.2.1 2 = .ok (.getfield 23, 3) := by decide +kernel
theorem d_Fo_placeOf_5 : decode m_Fo_placeOf.2.1 5 = .ok (.iload_n 1, 1) := by decide +kernel
theorem d_Fo_placeOf_6 : decode m_Fo_placeOf.2.1 6 = .ok (.aaload, 1) := by decide +kernel
theorem d_Fo_placeOf_7 : decode m_Fo_placeOf.2.1 7 = .ok (.invokevirtual 49, 3) := by decide +kernel
theorem d_Fo_placeOf_10 : decode m_Fo_placeOf.2.1 10 = .ok (.istore_n 2, 1) := by decide +kernel
theorem d_Fo_placeOf_11 : decode m_Fo_placeOf.2.1 11 = .ok (.iconst 0, 1) := by decide +kernel
theorem d_Fo_placeOf_12 : decode m_Fo_placeOf.2.1 12 = .ok (.istore_n 3, 1) := by decide +kernel
theorem d_Fo_placeOf_13 : decode m_Fo_placeOf.2.1 13 = .ok (.iload_n 3, 1) := by decide +kernel
theorem d_Fo_placeOf_14 : decode m_Fo_placeOf.2.1 14 = .ok (.iload_n 1, 1) := by decide +kernel
theorem d_Fo_placeOf_15 : decode m_Fo_placeOf.2.1 15 = .ok (.if_icmp .ge 30, 3) := by decide +kernel
theorem d_Fo_placeOf_18 : decode m_Fo_placeOf.2.1 18 = .ok (.aload_n 0, 1) := by decide +kernel
theorem d_Fo_placeOf_19 : decode m_Fo_placeOf.2.1 19 = .ok (.getfield 23, 3) := by decide +kernel
theorem d_Fo_placeOf_22 : decode m_Fo_placeOf.2.1 22 = .ok (.iload_n 3, 1) := by decide +kernel
theorem d_Fo_placeOf_23 : decode m_Fo_placeOf.2.1 23 = .ok (.aaload, 1) := by decide +kernel
theorem d_Fo_placeOf_24 : decode m_Fo_placeOf.2.1 24 = .ok (.aload_n 0, 1) := by decide +kernel
theorem d_Fo_placeOf_25 : decode m_Fo_placeOf.2.1 25 = .ok (.getfield 23, 3) := by decide +kernel
theorem d_Fo_placeOf_28 : decode m_Fo_placeOf.2.1 28 = .ok (.iload_n 1, 1) := by decide +kernel
theorem d_Fo_placeOf_29 : decode m_Fo_placeOf.2.1 29 = .ok (.aaload, 1) := by decide +kernel
theorem d_Fo_placeOf_30 : decode m_Fo_placeOf.2.1 30 = .ok (.invokevirtual 53, 3) := by decide +kernel
theorem d_Fo_placeOf_33 : decode m_Fo_placeOf.2.1 33 = .ok (.ifCond .ne 6, 3) := by decide +kernel
theorem d_Fo_placeOf_36 : decode m_Fo_placeOf.2.1 36 = .ok (.iinc 2 1, 3) := by decide +kernel
theorem d_Fo_placeOf_39 : decode m_Fo_placeOf.2.1 39 = .ok (.iinc 3 1, 3) := by decide +kernel
theorem d_Fo_placeOf_42 : decode m_Fo_placeOf.2.1 42 = .ok (.goto (-29), 3) := by decide +kernel
theorem d_Fo_placeOf_45 : decode m_Fo_placeOf.2.1 45 = .ok (.iload_n 2, 1) := by decide +kernel
theorem d_Fo_placeOf_46 : decode m_Fo_placeOf.2.1 46 = .ok (.ireturn, 1) := by decide +kernel
theorem d_Fo_countLess_0 : decode m_Fo_countLess.2.1 0 = .ok (.iconst 0, 1) := by decide +kernel
theorem d_Fo_countLess_1 : decode m_Fo_countLess.2.1 1 = .ok (.istore_n 2, 1) := by decide +kernel
theorem d_Fo_countLess_2 : decode m_Fo_countLess.2.1 2 = .ok (.iconst 0, 1) := by decide +kernel
theorem d_Fo_countLess_3 : decode m_Fo_countLess.2.1 3 = .ok (.istore_n 3, 1) := by decide +kernel
theorem d_Fo_countLess_4 : decode m_Fo_countLess.2.1 4 = .ok (.iload_n 3, 1) := by decide +kernel
theorem d_Fo_countLess_5 : decode m_Fo_countLess.2.1 5 = .ok (.aload_n 0, 1) := by decide +kernel
theorem d_Fo_countLess_6 : decode m_Fo_countLess.2.1 6 = .ok (.getfield 31, 3) := by decide +kernel
theorem d_Fo_countLess_9 : decode m_Fo_countLess.2.1 9 = .ok (.if_icmp .ge 25, 3) := by decide +kernel
theorem d_Fo_countLess_12 : decode m_Fo_countLess.2.1 12 = .ok (.aload_n 0, 1) := by decide +kernel
theorem d_Fo_countLess_13 : decode m_Fo_countLess.2.1 13 = .ok (.getfield 23, 3) := by decide +kernel
theorem d_Fo_countLess_16 : decode m_Fo_countLess.2.1 16 = .ok (.iload_n 3, 1) := by decide +kernel
theorem d_Fo_countLess_17 : decode m_Fo_countLess.2.1 17 = .ok (.aaload, 1) := by decide +kernel
theorem d_Fo_countLess_18 : decode m_Fo_countLess.2.1 18 = .ok (.aload_n 1, 1) := by decide +kernel
theorem d_Fo_countLess_19 : decode m_Fo_countLess.2.1 19 = .ok (.invokevirtual 53, 3) := by decide +kernel
theorem d_Fo_countLess_22 : decode m_Fo_countLess.2.1 22 = .ok (.ifCond .ge 6, 3) := by decide +kernel
theorem d_Fo_countLess_25 : decode m_Fo_countLess.2.1 25 = .ok (.iinc 2 1, 3) := by decide +kernel
theorem d_Fo_countLess_28 : decode m_Fo_countLess.2.1 28 = .ok (.iinc 3 1, 3) := by decide +kernel
theorem d_Fo_countLess_31 : decode m_Fo_countLess.2.1 31 = .ok (.goto (-27), 3) := by decide +kernel
theorem d_Fo_countLess_34 : decode m_Fo_countLess.2.1 34 = .ok (.iload_n 2, 1) := by decide +kernel
theorem d_Fo_countLess_35 : decode m_Fo_countLess.2.1 35 = .ok (.ireturn, 1) := by decide +kernel
theorem d_Ru_init_0 : decode m_Ru_init.2.1 0 = .ok (.aload_n 0, 1) := by decide +kernel
theorem d_Ru_init_1 : decode m_Ru_init.2.1 1 = .ok (.invokespecial 3, 3) := by decide +kernel
theorem d_Ru_init_4 : decode m_Ru_init.2.1 4 = .ok (.aload_n 0, 1) := by decide +kernel
theorem d_Ru_init_5 : decode m_Ru_init.2.1 5 = .ok (.bipush 24, 2) := by decide +kernel
theorem d_Ru_init_7 : decode m_Ru_init.2.1 7 = .ok (.newarray .int, 2) := by decide +kernel
theorem d_Ru_init_9 : decode m_Ru_init.2.1 9 = .ok (.putfield 9, 3) := by decide +kernel
theorem d_Ru_init_12 : decode m_Ru_init.2.1 12 = .ok (.aload_n 0, 1) := by decide +kernel
theorem d_Ru_init_13 : decode m_Ru_init.2.1 13 = .ok (.bipush 24, 2) := by decide +kernel
theorem d_Ru_init_15 : decode m_Ru_init.2.1 15 = .ok (.newarray .int, 2) := by decide +kernel
theorem d_Ru_init_17 : decode m_Ru_init.2.1 17 = .ok (.putfield 15, 3) := by decide +kernel
theorem d_Ru_init_20 : decode m_Ru_init.2.1 20 = .ok (.return_, 1) := by decide +kernel
theorem d_Ru_read_0 : decode m_Ru_read.2.1 0 = .ok (.aload_n 0, 1) := by decide +kernel
theorem d_Ru_read_1 : decode m_Ru_read.2.1 1 = .ok (.iconst 0, 1) := by decide +kernel
theorem d_Ru_read_2 : decode m_Ru_read.2.1 2 = .ok (.putfield 18, 3) := by decide +kernel
theorem d_Ru_read_5 : decode m_Ru_read.2.1 5 = .ok (.aload_n 0, 1) := by decide +kernel
theorem d_Ru_read_6 : decode m_Ru_read.2.1 6 = .ok (.iconst 0, 1) := by decide +kernel
theorem d_Ru_read_7 : decode m_Ru_read.2.1 7 = .ok (.putfield 22, 3) := by decide +kernel
theorem d_Ru_read_10 : decode m_Ru_read.2.1 10 = .ok (.aload_n 0, 1) := by decide +kernel
theorem d_Ru_read_11 : decode m_Ru_read.2.1 11 = .ok (.iconst 0, 1) := by decide +kernel
theorem d_Ru_read_12 : decode m_Ru_read.2.1 12 = .ok (.putfield 25, 3) := by decide +kernel
theorem d_Ru_read_15 : decode m_Ru_read.2.1 15 = .ok (.iconst 0, 1) := by decide +kernel
theorem d_Ru_read_16 : decode m_Ru_read.2.1 16 = .ok (.istore_n 2, 1) := by decide +kernel
theorem d_Ru_read_17 : decode m_Ru_read.2.1 17 = .ok (.iload_n 2, 1) := by decide +kernel
theorem d_Ru_read_18 : decode m_Ru_read.2.1 18 = .ok (.aload_n 1, 1) := by decide +kernel
theorem d_Ru_read_19 : decode m_Ru_read.2.1 19 = .ok (.getfield 28, 3) := by decide +kernel
theorem d_Ru_read_22 : decode m_Ru_read.2.1 22 = .ok (.if_icmp .ge 26, 3) := by decide +kernel
theorem d_Ru_read_25 : decode m_Ru_read.2.1 25 = .ok (.aload_n 0, 1) := by decide +kernel
theorem d_Ru_read_26 : decode m_Ru_read.2.1 26 = .ok (.aload_n 1, 1) := by decide +kernel
theorem d_Ru_read_27 : decode m_Ru_read.2.1 27 = .ok (.getfield 33, 3) := by decide +kernel
theorem d_Ru_read_30 : decode m_Ru_read.2.1 30 = .ok (.iload_n 2, 1) := by decide +kernel
theorem d_Ru_read_31 : decode m_Ru_read.2.1 31 = .ok (.caload, 1) := by decide +kernel
theorem d_Ru_read_32 : decode m_Ru_read.2.1 32 = .ok (.invokevirtual 37, 3) := by decide +kernel
theorem d_Ru_read_35 : decode m_Ru_read.2.1 35 = .ok (.ifCond .ne 7, 3) := by decide +kernel
theorem d_Ru_read_38 : decode m_Ru_read.2.1 38 = .ok (.iconst (-1), 1) := by decide +kernel
theorem d_Ru_read_39 : decode m_Ru_read.2.1 39 = .ok (.iload_n 2, 1) := by decide +kernel
theorem d_Ru_read_40 : decode m_Ru_read.2.1 40 = .ok (.isub, 1) := by decide +kernel
theorem d_Ru_read_41 : decode m_Ru_read.2.1 41 = .ok (.ireturn, 1) := by decide +kernel
theorem d_Ru_read_42 : decode m_Ru_read.2.1 42 = .ok (.iinc 2 1, 3) := by decide +kernel
theorem d_Ru_read_45 : decode m_Ru_read.2.1 45 = .ok (.goto (-28), 3) := by decide +kernel
theorem d_Ru_read_48 : decode m_Ru_read.2.1 48 = .ok (.aload_n 0, 1) := by decide +kernel
theorem d_Ru_read_49 : decode m_Ru_read.2.1 49 = .ok (.getfield 22, 3) := by decide +kernel
theorem d_Ru_read_52 : decode m_Ru_read.2.1 52 = .ok (.iconst 2, 1) := by decide +kernel
theorem d_Ru_read_53 : decode m_Ru_read.2.1 53 = .ok (.if_icmp .ne 18, 3) := by decide +kernel
theorem d_Ru_read_56 : decode m_Ru_read.2.1 56 = .ok (.aload_n 0, 1) := by decide +kernel
theorem d_Ru_read_57 : decode m_Ru_read.2.1 57 = .ok (.getfield 18, 3) := by decide +kernel
theorem d_Ru_read_60 : decode m_Ru_read.2.1 60 = .ok (.iconst 1, 1) := by decide +kernel
theorem d_Ru_read_61 : decode m_Ru_read.2.1 61 = .ok (.if_icmp .le 10, 3) := by decide +kernel
theorem d_Ru_read_64 : decode m_Ru_read.2.1 64 = .ok (.aload_n 0, 1) := by decide +kernel
theorem d_Ru_read_65 : decode m_Ru_read.2.1 65 = .ok (.getfield 18, 3) := by decide +kernel
theorem d_Ru_read_68 : decode m_Ru_read.2.1 68 = .ok (.goto 9, 3) := by decide +kernel
theorem d_Ru_read_71 : decode m_Ru_read.2.1 71 = .ok (.iconst (-1), 1) := by decide +kernel
theorem d_Ru_read_72 : decode m_Ru_read.2.1 72 = .ok (.aload_n 1, 1) := by decide +kernel
theorem d_Ru_read_73 : decode m_Ru_read.2.1 73 = .ok (.getfield 28, 3) := by decide +kernel
theorem d_Ru_read_76 : decode m_Ru_read.2.1 76 = .ok (.isub, 1) := by decide +kernel
theorem d_Ru_read_77 : decode m_Ru_read.2.1 77 = .ok (.ireturn, 1) := by decide +kernel
theorem d_Ru_takes_0 : decode m_Ru_takes.2.1 0 = .ok (.aload_n 0, 1) := by decide +kernel
theorem d_Ru_takes_1 : decode m_Ru_takes.2.1 1 = .ok (.getfield 22, 3) := by decide +kernel
theorem d_Ru_takes_4 : decode m_Ru_takes.2.1 4 = .ok (.lookupswitch 104 #[(0, 28), (1, 48)], 28) := by decide +kernel
theorem d_Ru_takes_32 : decode m_Ru_takes.2.1 32 = .ok (.iload_n 1, 1) := by decide +kernel
theorem d_Ru_takes_33 : decode m_Ru_takes.2.1 33 = .ok (.bipush 38, 2) := by decide +kernel
theorem d_Ru_takes_35 : decode m_Ru_takes.2.1 35 = .ok (.if_icmp .ne 15, 3) := by decide +kernel
theorem d_Ru_takes_38 : decode m_Ru_takes.2.1 38 = .ok (.aload_n 0, 1) := by decide +kernel
theorem d_Ru_takes_39 : decode m_Ru_takes.2.1 39 = .ok (.iconst 0, 1) := by decide +kernel
theorem d_Ru_takes_40 : decode m_Ru_takes.2.1 40 = .ok (.invokevirtual 41, 3) := by decide +kernel
theorem d_Ru_takes_43 : decode m_Ru_takes.2.1 43 = .ok (.ifCond .eq 7, 3) := by decide +kernel
theorem d_Ru_takes_46 : decode m_Ru_takes.2.1 46 = .ok (.iconst 1, 1) := by decide +kernel
theorem d_Ru_takes_47 : decode m_Ru_takes.2.1 47 = .ok (.goto 4, 3) := by decide +kernel
theorem d_Ru_takes_50 : decode m_Ru_takes.2.1 50 = .ok (.iconst 0, 1) := by decide +kernel
theorem d_Ru_takes_51 : decode m_Ru_takes.2.1 51 = .ok (.ireturn, 1) := by decide +kernel
theorem d_Ru_takes_52 : decode m_Ru_takes.2.1 52 = .ok (.iload_n 1, 1) := by decide +kernel
theorem d_Ru_takes_53 : decode m_Ru_takes.2.1 53 = .ok (.bipush 60, 2) := by decide +kernel
theorem d_Ru_takes_55 : decode m_Ru_takes.2.1 55 = .ok (.if_icmp .ne 32, 3) := by decide +kernel
theorem d_Ru_takes_58 : decode m_Ru_takes.2.1 58 = .ok (.aload_n 0, 1) := by decide +kernel
theorem d_Ru_takes_59 : decode m_Ru_takes.2.1 59 = .ok (.getfield 25, 3) := by decide +kernel
theorem d_Ru_takes_62 : decode m_Ru_takes.2.1 62 = .ok (.iconst 1, 1) := by decide +kernel
theorem d_Ru_takes_63 : decode m_Ru_takes.2.1 63 = .ok (.if_icmp .eq 11, 3) := by decide +kernel
theorem d_Ru_takes_66 : decode m_Ru_takes.2.1 66 = .ok (.aload_n 0, 1) := by decide +kernel
theorem d_Ru_takes_67 : decode m_Ru_takes.2.1 67 = .ok (.getfield 25, 3) := by decide +kernel
theorem d_Ru_takes_70 : decode m_Ru_takes.2.1 70 = .ok (.iconst 2, 1) := by decide +kernel
theorem d_Ru_takes_71 : decode m_Ru_takes.2.1 71 = .ok (.if_icmp .ne 16, 3) := by decide +kernel
theorem d_Ru_takes_74 : decode m_Ru_takes.2.1 74 = .ok (.aload_n 0, 1) := by decide +kernel
theorem d_Ru_takes_75 : decode m_Ru_takes.2.1 75 = .ok (.aload_n 0, 1) := by decide +kernel
theorem d_Ru_takes_76 : decode m_Ru_takes.2.1 76 = .ok (.getfield 25, 3) := by decide +kernel
theorem d_Ru_takes_79 : decode m_Ru_takes.2.1 79 = .ok (.iconst 1, 1) := by decide +kernel
theorem d_Ru_takes_80 : decode m_Ru_takes.2.1 80 = .ok (.iadd, 1) := by decide +kernel
theorem d_Ru_takes_81 : decode m_Ru_takes.2.1 81 = .ok (.invokevirtual 41, 3) := by decide +kernel
theorem d_Ru_takes_84 : decode m_Ru_takes.2.1 84 = .ok (.goto 23, 3) := by decide +kernel
theorem d_Ru_takes_87 : decode m_Ru_takes.2.1 87 = .ok (.iload_n 1, 1) := by decide +kernel
theorem d_Ru_takes_88 : decode m_Ru_takes.2.1 88 = .ok (.invokestatic 45, 3) := by decide +kernel
theorem d_Ru_takes_91 : decode m_Ru_takes.2.1 91 = .ok (.ifCond .eq 15, 3) := by decide +kernel
theorem d_Ru_takes_94 : decode m_Ru_takes.2.1 94 = .ok (.aload_n 0, 1) := by decide +kernel
theorem d_Ru_takes_95 : decode m_Ru_takes.2.1 95 = .ok (.iload_n 1, 1) := by decide +kernel
theorem d_Ru_takes_96 : decode m_Ru_takes.2.1 96 = .ok (.invokevirtual 48, 3) := by decide +kernel
theorem d_Ru_takes_99 : decode m_Ru_takes.2.1 99 = .ok (.ifCond .eq 7, 3) := by decide +kernel
theorem d_Ru_takes_102 : decode m_Ru_takes.2.1 102 = .ok (.iconst 1, 1) := by decide +kernel
theorem d_Ru_takes_103 : decode m_Ru_takes.2.1 103 = .ok (.goto 4, 3) := by decide +kernel
theorem d_Ru_takes_106 : decode m_Ru_takes.2.1 106 = .ok (.iconst 0, 1) := by decide +kernel
theorem d_Ru_takes_107 : decode m_Ru_takes.2.1 107 = .ok (.ireturn, 1) := by decide +kernel
theorem d_Ru_takes_108 : decode m_Ru_takes.2.1 108 = .ok (.iload_n 1, 1) := by decide +kernel
theorem d_Ru_takes_109 : decode m_Ru_takes.2.1 109 = .ok (.bipush 60, 2) := by decide +kernel
theorem d_Ru_takes_111 : decode m_Ru_takes.2.1 111 = .ok (.if_icmp .ne 11, 3) := by decide +kernel
theorem d_Ru_takes_114 : decode m_Ru_takes.2.1 114 = .ok (.aload_n 0, 1) := by decide +kernel
theorem d_Ru_takes_115 : decode m_Ru_takes.2.1 115 = .ok (.iconst 1, 1) := by decide +kernel
theorem d_Ru_takes_116 : decode m_Ru_takes.2.1 116 = .ok (.invokevirtual 41, 3) := by decide +kernel
theorem d_Ru_takes_119 : decode m_Ru_takes.2.1 119 = .ok (.goto 22, 3) := by decide +kernel
theorem d_Ru_takes_122 : decode m_Ru_takes.2.1 122 = .ok (.iload_n 1, 1) := by decide +kernel
theorem d_Ru_takes_123 : decode m_Ru_takes.2.1 123 = .ok (.bipush 61, 2) := by decide +kernel
theorem d_Ru_takes_125 : decode m_Ru_takes.2.1 125 = .ok (.if_icmp .ne 11, 3) := by decide +kernel
theorem d_Ru_takes_128 : decode m_Ru_takes.2.1 128 = .ok (.aload_n 0, 1) := by decide +kernel
theorem d_Ru_takes_129 : decode m_Ru_takes.2.1 129 = .ok (.iconst 4, 1) := by decide +kernel
theorem d_Ru_takes_130 : decode m_Ru_takes.2.1 130 = .ok (.invokevirtual 41, 3) := by decide +kernel
theorem d_Ru_takes_133 : decode m_Ru_takes.2.1 133 = .ok (.goto 8, 3) := by decide +kernel
theorem d_Ru_takes_136 : decode m_Ru_takes.2.1 136 = .ok (.aload_n 0, 1) := by decide +kernel
theorem d_Ru_takes_137 : decode m_Ru_takes.2.1 137 = .ok (.iload_n 1, 1) := by decide +kernel
theorem d_Ru_takes_138 : decode m_Ru_takes.2.1 138 = .ok (.invokevirtual 51, 3) := by decide +kernel
theorem d_Ru_takes_141 : decode m_Ru_takes.2.1 141 = .ok (.ireturn, 1) := by decide +kernel
theorem d_Ru_sign_0 : decode m_Ru_sign.2.1 0 = .ok (.aload_n 0, 1) := by decide +kernel
theorem d_Ru_sign_1 : decode m_Ru_sign.2.1 1 = .ok (.iconst 1, 1) := by decide +kernel
theorem d_Ru_sign_2 : decode m_Ru_sign.2.1 2 = .ok (.putfield 22, 3) := by decide +kernel
theorem d_Ru_sign_5 : decode m_Ru_sign.2.1 5 = .ok (.aload_n 0, 1) := by decide +kernel
theorem d_Ru_sign_6 : decode m_Ru_sign.2.1 6 = .ok (.iload_n 1, 1) := by decide +kernel
theorem d_Ru_sign_7 : decode m_Ru_sign.2.1 7 = .ok (.putfield 25, 3) := by decide +kernel
theorem d_Ru_sign_10 : decode m_Ru_sign.2.1 10 = .ok (.iconst 1, 1) := by decide +kernel
theorem d_Ru_sign_11 : decode m_Ru_sign.2.1 11 = .ok (.ireturn, 1) := by decide +kernel
theorem d_Ru_begin_0 : decode m_Ru_begin.2.1 0 = .ok (.aload_n 0, 1) := by decide +kernel
theorem d_Ru_begin_1 : decode m_Ru_begin.2.1 1 = .ok (.getfield 18, 3) := by decide +kernel
theorem d_Ru_begin_4 : decode m_Ru_begin.2.1 4 = .ok (.bipush 24, 2) := by decide +kernel
theorem d_Ru_begin_6 : decode m_Ru_begin.2.1 6 = .ok (.if_icmp .lt 5, 3) := by decide +kernel
theorem d_Ru_begin_9 : decode m_Ru_begin.2.1 9 = .ok (.iconst 0, 1) := by decide +kernel
theorem d_Ru_begin_10 : decode m_Ru_begin.2.1 10 = .ok (.ireturn, 1) := by decide +kernel
theorem d_Ru_begin_11 : decode m_Ru_begin.2.1 11 = .ok (.aload_n 0, 1) := by decide +kernel
theorem d_Ru_begin_12 : decode m_Ru_begin.2.1 12 = .ok (.getfield 9, 3) := by decide +kernel
theorem d_Ru_begin_15 : decode m_Ru_begin.2.1 15 = .ok (.aload_n 0, 1) := by decide +kernel
theorem d_Ru_begin_16 : decode m_Ru_begin.2.1 16 = .ok (.getfield 18, 3) := by decide +kernel
theorem d_Ru_begin_19 : decode m_Ru_begin.2.1 19 = .ok (.iload_n 1, 1) := by decide +kernel
theorem d_Ru_begin_20 : decode m_Ru_begin.2.1 20 = .ok (.iastore, 1) := by decide +kernel
theorem d_Ru_begin_21 : decode m_Ru_begin.2.1 21 = .ok (.aload_n 0, 1) := by decide +kernel
theorem d_Ru_begin_22 : decode m_Ru_begin.2.1 22 = .ok (.getfield 15, 3) := by decide +kernel
theorem d_Ru_begin_25 : decode m_Ru_begin.2.1 25 = .ok (.aload_n 0, 1) := by decide +kernel
theorem d_Ru_begin_26 : decode m_Ru_begin.2.1 26 = .ok (.getfield 18, 3) := by decide +kernel
theorem d_Ru_begin_29 : decode m_Ru_begin.2.1 29 = .ok (.aload_n 0, 1) := by decide +kernel
theorem d_Ru_begin_30 : decode m_Ru_begin.2.1 30 = .ok (.getfield 25, 3) := by decide +kernel
theorem d_Ru_begin_33 : decode m_Ru_begin.2.1 33 = .ok (.iastore, 1) := by decide +kernel
theorem d_Ru_begin_34 : decode m_Ru_begin.2.1 34 = .ok (.aload_n 0, 1) := by decide +kernel
theorem d_Ru_begin_35 : decode m_Ru_begin.2.1 35 = .ok (.dup, 1) := by decide +kernel
theorem d_Ru_begin_36 : decode m_Ru_begin.2.1 36 = .ok (.getfield 18, 3) := by decide +kernel
theorem d_Ru_begin_39 : decode m_Ru_begin.2.1 39 = .ok (.iconst 1, 1) := by decide +kernel
theorem d_Ru_begin_40 : decode m_Ru_begin.2.1 40 = .ok (.iadd, 1) := by decide +kernel
theorem d_Ru_begin_41 : decode m_Ru_begin.2.1 41 = .ok (.putfield 18, 3) := by decide +kernel
theorem d_Ru_begin_44 : decode m_Ru_begin.2.1 44 = .ok (.aload_n 0, 1) := by decide +kernel
theorem d_Ru_begin_45 : decode m_Ru_begin.2.1 45 = .ok (.iconst 2, 1) := by decide +kernel
theorem d_Ru_begin_46 : decode m_Ru_begin.2.1 46 = .ok (.putfield 22, 3) := by decide +kernel
theorem d_Ru_begin_49 : decode m_Ru_begin.2.1 49 = .ok (.iconst 1, 1) := by decide +kernel
theorem d_Ru_begin_50 : decode m_Ru_begin.2.1 50 = .ok (.ireturn, 1) := by decide +kernel
theorem d_Ru_goOn_0 : decode m_Ru_goOn.2.1 0 = .ok (.aload_n 0, 1) := by decide +kernel
theorem d_Ru_goOn_1 : decode m_Ru_goOn.2.1 1 = .ok (.getfield 18, 3) := by decide +kernel
theorem d_Ru_goOn_4 : decode m_Ru_goOn.2.1 4 = .ok (.iconst 1, 1) := by decide +kernel
theorem d_Ru_goOn_5 : decode m_Ru_goOn.2.1 5 = .ok (.isub, 1) := by decide +kernel
theorem d_Ru_goOn_6 : decode m_Ru_goOn.2.1 6 = .ok (.istore_n 2, 1) := by decide +kernel
theorem d_Ru_goOn_7 : decode m_Ru_goOn.2.1 7 = .ok (.iload_n 1, 1) := by decide +kernel
theorem d_Ru_goOn_8 : decode m_Ru_goOn.2.1 8 = .ok (.invokestatic 45, 3) := by decide +kernel
theorem d_Ru_goOn_11 : decode m_Ru_goOn.2.1 11 = .ok (.ifCond .ne 10, 3) := by decide +kernel
theorem d_Ru_goOn_14 : decode m_Ru_goOn.2.1 14 = .ok (.iload_n 1, 1) := by decide +kernel
theorem d_Ru_goOn_15 : decode m_Ru_goOn.2.1 15 = .ok (.invokestatic 54, 3) := by decide +kernel
theorem d_Ru_goOn_18 : decode m_Ru_goOn.2.1 18 = .ok (.ifCond .eq 7, 3) := by decide +kernel
theorem d_Ru_goOn_21 : decode m_Ru_goOn.2.1 21 = .ok (.iconst 1, 1) := by decide +kernel
theorem d_Ru_goOn_22 : decode m_Ru_goOn.2.1 22 = .ok (.goto 4, 3) := by decide +kernel
theorem d_Ru_goOn_25 : decode m_Ru_goOn.2.1 25 = .ok (.iconst 0, 1) := by decide +kernel
theorem d_Ru_goOn_26 : decode m_Ru_goOn.2.1 26 = .ok (.istore_n 3, 1) := by decide +kernel
theorem d_Ru_goOn_27 : decode m_Ru_goOn.2.1 27 = .ok (.iload_n 3, 1) := by decide +kernel
theorem d_Ru_goOn_28 : decode m_Ru_goOn.2.1 28 = .ok (.ifCond .eq 7, 3) := by decide +kernel
theorem d_Ru_goOn_31 : decode m_Ru_goOn.2.1 31 = .ok (.iload_n 2, 1) := by decide +kernel
theorem d_Ru_goOn_32 : decode m_Ru_goOn.2.1 32 = .ok (.ifCond .ge 5, 3) := by decide +kernel
theorem d_Ru_goOn_35 : decode m_Ru_goOn.2.1 35 = .ok (.iconst 0, 1) := by decide +kernel
theorem d_Ru_goOn_36 : decode m_Ru_goOn.2.1 36 = .ok (.ireturn, 1) := by decide +kernel
theorem d_Ru_goOn_37 : decode m_Ru_goOn.2.1 37 = .ok (.aload_n 0, 1) := by decide +kernel
theorem d_Ru_goOn_38 : decode m_Ru_goOn.2.1 38 = .ok (.getfield 9, 3) := by decide +kernel
theorem d_Ru_goOn_41 : decode m_Ru_goOn.2.1 41 = .ok (.iload_n 2, 1) := by decide +kernel
theorem d_Ru_goOn_42 : decode m_Ru_goOn.2.1 42 = .ok (.iaload, 1) := by decide +kernel
theorem d_Ru_goOn_43 : decode m_Ru_goOn.2.1 43 = .ok (.invokestatic 57, 3) := by decide +kernel
theorem d_Ru_goOn_46 : decode m_Ru_goOn.2.1 46 = .ok (.istore 4, 2) := by decide +kernel
theorem d_Ru_goOn_48 : decode m_Ru_goOn.2.1 48 = .ok (.iload 4, 2) := by decide +kernel
theorem d_Ru_goOn_50 : decode m_Ru_goOn.2.1 50 = .ok (.iconst 3, 1) := by decide +kernel
theorem d_Ru_goOn_51 : decode m_Ru_goOn.2.1 51 = .ok (.if_icmp .lt 5, 3) := by decide +kernel
theorem d_Ru_goOn_54 : decode m_Ru_goOn.2.1 54 = .ok (.iconst 0, 1) := by decide +kernel
theorem d_Ru_goOn_55 : decode m_Ru_goOn.2.1 55 = .ok (.ireturn, 1) := by decide +kernel
theorem d_Ru_goOn_56 : decode m_Ru_goOn.2.1 56 = .ok (.aload_n 0, 1) := by decide +kernel
theorem d_Ru_goOn_57 : decode m_Ru_goOn.2.1 57 = .ok (.getfield 9, 3) := by decide +kernel
theorem d_Ru_goOn_60 : decode m_Ru_goOn.2.1 60 = .ok (.iload_n 2, 1) := by decide +kernel
theorem d_Ru_goOn_61 : decode m_Ru_goOn.2.1 61 = .ok (.aload_n 0, 1) := by decide +kernel
theorem d_Ru_goOn_62 : decode m_Ru_goOn.2.1 62 = .ok (.getfield 9, 3) := by decide +kernel
theorem d_Ru_goOn_65 : decode m_Ru_goOn.2.1 65 = .ok (.iload_n 2, 1) := by decide +kernel
theorem d_Ru_goOn_66 : decode m_Ru_goOn.2.1 66 = .ok (.iaload, 1) := by decide +kernel
theorem d_Ru_goOn_67 : decode m_Ru_goOn.2.1 67 = .ok (.iload 4, 2) := by decide +kernel
theorem d_Ru_goOn_69 : decode m_Ru_goOn.2.1 69 = .ok (.iload_n 1, 1) := by decide +kernel
theorem d_Ru_goOn_70 : decode m_Ru_goOn.2.1 70 = .ok (.invokestatic 61, 3) := by decide +kernel
theorem d_Ru_goOn_73 : decode m_Ru_goOn.2.1 73 = .ok (.iastore, 1) := by decide +kernel
theorem d_Ru_goOn_74 : decode m_Ru_goOn.2.1 74 = .ok (.iconst 1, 1) := by decide +kernel
theorem d_Ru_goOn_75 : decode m_Ru_goOn.2.1 75 = .ok (.ireturn, 1) := by decide +kernel
