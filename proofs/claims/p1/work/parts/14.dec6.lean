theorem d_P_begin_18 : decode b_P_begin 18 = .ok (.ifCond .lt (20), 3) := by decide +kernel
theorem d_P_begin_21 : decode b_P_begin 21 = .ok (.iload_n 1, 1) := by decide +kernel
theorem d_P_begin_22 : decode b_P_begin 22 = .ok (.bipush (9), 2) := by decide +kernel
theorem d_P_begin_24 : decode b_P_begin 24 = .ok (.if_icmp .gt (14), 3) := by decide +kernel
theorem d_P_begin_27 : decode b_P_begin 27 = .ok (.aload_n 0, 1) := by decide +kernel
theorem d_P_begin_28 : decode b_P_begin 28 = .ok (.getfield 36, 3) := by decide +kernel
theorem d_P_begin_31 : decode b_P_begin 31 = .ok (.iload_n 1, 1) := by decide +kernel
theorem d_P_begin_32 : decode b_P_begin 32 = .ok (.invokevirtual 54, 3) := by decide +kernel
theorem d_P_begin_35 : decode b_P_begin 35 = .ok (.ifCond .ne (13), 3) := by decide +kernel
theorem d_P_begin_38 : decode b_P_begin 38 = .ok (.new 58, 3) := by decide +kernel
theorem d_P_begin_41 : decode b_P_begin 41 = .ok (.dup, 1) := by decide +kernel
theorem d_P_begin_42 : decode b_P_begin 42 = .ok (.ldc 60, 2) := by decide +kernel
theorem d_P_begin_44 : decode b_P_begin 44 = .ok (.invokespecial 62, 3) := by decide +kernel
theorem d_P_begin_47 : decode b_P_begin 47 = .ok (.athrow, 1) := by decide +kernel
theorem d_P_begin_48 : decode b_P_begin 48 = .ok (.iload_n 1, 1) := by decide +kernel
theorem d_P_begin_49 : decode b_P_begin 49 = .ok (.iload_n 2, 1) := by decide +kernel
theorem d_P_begin_50 : decode b_P_begin 50 = .ok (.invokestatic 63, 3) := by decide +kernel
theorem d_P_begin_53 : decode b_P_begin 53 = .ok (.ifCond .ne (13), 3) := by decide +kernel
theorem d_P_begin_56 : decode b_P_begin 56 = .ok (.new 58, 3) := by decide +kernel
theorem d_P_begin_59 : decode b_P_begin 59 = .ok (.dup, 1) := by decide +kernel
theorem d_P_begin_60 : decode b_P_begin 60 = .ok (.ldc 67, 2) := by decide +kernel
theorem d_P_begin_62 : decode b_P_begin 62 = .ok (.invokespecial 62, 3) := by decide +kernel
theorem d_P_begin_65 : decode b_P_begin 65 = .ok (.athrow, 1) := by decide +kernel
theorem d_P_begin_66 : decode b_P_begin 66 = .ok (.aload_n 0, 1) := by decide +kernel
theorem d_P_begin_67 : decode b_P_begin 67 = .ok (.iload_n 1, 1) := by decide +kernel
theorem d_P_begin_68 : decode b_P_begin 68 = .ok (.iload_n 1, 1) := by decide +kernel
theorem d_P_begin_69 : decode b_P_begin 69 = .ok (.iconst 1, 1) := by decide +kernel
theorem d_P_begin_70 : decode b_P_begin 70 = .ok (.if_icmp .eq (9), 3) := by decide +kernel
theorem d_P_begin_73 : decode b_P_begin 73 = .ok (.iload_n 1, 1) := by decide +kernel
theorem d_P_begin_74 : decode b_P_begin 74 = .ok (.bipush (6), 2) := by decide +kernel
theorem d_P_begin_76 : decode b_P_begin 76 = .ok (.if_icmp .ne (7), 3) := by decide +kernel
theorem d_P_begin_79 : decode b_P_begin 79 = .ok (.iload_n 2, 1) := by decide +kernel
theorem d_P_begin_80 : decode b_P_begin 80 = .ok (.goto (4), 3) := by decide +kernel
theorem d_P_begin_83 : decode b_P_begin 83 = .ok (.iconst 0, 1) := by decide +kernel
theorem d_P_begin_84 : decode b_P_begin 84 = .ok (.invokevirtual 69, 3) := by decide +kernel
theorem d_P_begin_87 : decode b_P_begin 87 = .ok (.astore_n 3, 1) := by decide +kernel
theorem d_P_begin_88 : decode b_P_begin 88 = .ok (.iload_n 1, 1) := by decide +kernel
theorem d_P_begin_89 : decode b_P_begin 89 = .ok (.bipush (9), 2) := by decide +kernel
theorem d_P_begin_91 : decode b_P_begin 91 = .ok (.if_icmp .ne (30), 3) := by decide +kernel
theorem d_P_begin_94 : decode b_P_begin 94 = .ok (.aload_n 0, 1) := by decide +kernel
theorem d_P_begin_95 : decode b_P_begin 95 = .ok (.getfield 18, 3) := by decide +kernel
theorem d_P_begin_98 : decode b_P_begin 98 = .ok (.getfield 73, 3) := by decide +kernel
theorem d_P_begin_101 : decode b_P_begin 101 = .ok (.sipush (256), 3) := by decide +kernel
theorem d_P_begin_104 : decode b_P_begin 104 = .ok (.invokevirtual 77, 3) := by decide +kernel
theorem d_P_begin_107 : decode b_P_begin 107 = .ok (.aload_n 3, 1) := by decide +kernel
theorem d_P_begin_108 : decode b_P_begin 108 = .ok (.aload_n 0, 1) := by decide +kernel
theorem d_P_begin_109 : decode b_P_begin 109 = .ok (.getfield 18, 3) := by decide +kernel
theorem d_P_begin_112 : decode b_P_begin 112 = .ok (.getfield 73, 3) := by decide +kernel
theorem d_P_begin_115 : decode b_P_begin 115 = .ok (.invokevirtual 83, 3) := by decide +kernel
theorem d_P_begin_118 : decode b_P_begin 118 = .ok (.invokevirtual 87, 3) := by decide +kernel
theorem d_P_begin_121 : decode b_P_begin 121 = .ok (.iload_n 1, 1) := by decide +kernel
theorem d_P_begin_122 : decode b_P_begin 122 = .ok (.sipush (-1541), 3) := by decide +kernel
theorem d_P_begin_125 : decode b_P_begin 125 = .ok (.invokestatic 90, 3) := by decide +kernel
theorem d_P_begin_128 : decode b_P_begin 128 = .ok (.ifCond .eq (8), 3) := by decide +kernel
theorem d_P_begin_131 : decode b_P_begin 131 = .ok (.aload_n 0, 1) := by decide +kernel
theorem d_P_begin_132 : decode b_P_begin 132 = .ok (.aload_n 3, 1) := by decide +kernel
theorem d_P_begin_133 : decode b_P_begin 133 = .ok (.putfield 36, 3) := by decide +kernel
theorem d_P_begin_136 : decode b_P_begin 136 = .ok (.aload_n 3, 1) := by decide +kernel
theorem d_P_begin_137 : decode b_P_begin 137 = .ok (.getfield 93, 3) := by decide +kernel
theorem d_P_begin_140 : decode b_P_begin 140 = .ok (.ireturn, 1) := by decide +kernel
theorem d_T_reset_0 : decode b_T_reset 0 = .ok (.aload_n 0, 1) := by decide +kernel
theorem d_T_reset_1 : decode b_T_reset 1 = .ok (.getfield 12, 3) := by decide +kernel
theorem d_T_reset_4 : decode b_T_reset 4 = .ok (.iconst 0, 1) := by decide +kernel
theorem d_T_reset_5 : decode b_T_reset 5 = .ok (.invokevirtual 43, 3) := by decide +kernel
theorem d_T_reset_8 : decode b_T_reset 8 = .ok (.aload_n 0, 1) := by decide +kernel
theorem d_T_reset_9 : decode b_T_reset 9 = .ok (.getfield 18, 3) := by decide +kernel
theorem d_T_reset_12 : decode b_T_reset 12 = .ok (.iconst 0, 1) := by decide +kernel
theorem d_T_reset_13 : decode b_T_reset 13 = .ok (.invokevirtual 43, 3) := by decide +kernel
theorem d_T_reset_16 : decode b_T_reset 16 = .ok (.aload_n 0, 1) := by decide +kernel
theorem d_T_reset_17 : decode b_T_reset 17 = .ok (.getfield 21, 3) := by decide +kernel
theorem d_T_reset_20 : decode b_T_reset 20 = .ok (.iconst 0, 1) := by decide +kernel
theorem d_T_reset_21 : decode b_T_reset 21 = .ok (.invokevirtual 43, 3) := by decide +kernel
theorem d_T_reset_24 : decode b_T_reset 24 = .ok (.aload_n 0, 1) := by decide +kernel
theorem d_T_reset_25 : decode b_T_reset 25 = .ok (.getfield 24, 3) := by decide +kernel
theorem d_T_reset_28 : decode b_T_reset 28 = .ok (.iconst 0, 1) := by decide +kernel
theorem d_T_reset_29 : decode b_T_reset 29 = .ok (.invokevirtual 43, 3) := by decide +kernel
theorem d_T_reset_32 : decode b_T_reset 32 = .ok (.aload_n 0, 1) := by decide +kernel
theorem d_T_reset_33 : decode b_T_reset 33 = .ok (.getfield 27, 3) := by decide +kernel
theorem d_T_reset_36 : decode b_T_reset 36 = .ok (.iconst 0, 1) := by decide +kernel
theorem d_T_reset_37 : decode b_T_reset 37 = .ok (.invokevirtual 43, 3) := by decide +kernel
theorem d_T_reset_40 : decode b_T_reset 40 = .ok (.aload_n 0, 1) := by decide +kernel
theorem d_T_reset_41 : decode b_T_reset 41 = .ok (.getfield 30, 3) := by decide +kernel
theorem d_T_reset_44 : decode b_T_reset 44 = .ok (.iconst 0, 1) := by decide +kernel
theorem d_T_reset_45 : decode b_T_reset 45 = .ok (.invokevirtual 43, 3) := by decide +kernel
theorem d_T_reset_48 : decode b_T_reset 48 = .ok (.aload_n 0, 1) := by decide +kernel
theorem d_T_reset_49 : decode b_T_reset 49 = .ok (.getfield 33, 3) := by decide +kernel
theorem d_T_reset_52 : decode b_T_reset 52 = .ok (.iconst 0, 1) := by decide +kernel
theorem d_T_reset_53 : decode b_T_reset 53 = .ok (.invokevirtual 43, 3) := by decide +kernel
theorem d_T_reset_56 : decode b_T_reset 56 = .ok (.aload_n 0, 1) := by decide +kernel
theorem d_T_reset_57 : decode b_T_reset 57 = .ok (.getfield 36, 3) := by decide +kernel
theorem d_T_reset_60 : decode b_T_reset 60 = .ok (.iconst 0, 1) := by decide +kernel
theorem d_T_reset_61 : decode b_T_reset 61 = .ok (.invokevirtual 43, 3) := by decide +kernel
theorem d_T_reset_64 : decode b_T_reset 64 = .ok (.aload_n 0, 1) := by decide +kernel
theorem d_T_reset_65 : decode b_T_reset 65 = .ok (.iload_n 1, 1) := by decide +kernel
theorem d_T_reset_66 : decode b_T_reset 66 = .ok (.putfield 47, 3) := by decide +kernel
theorem d_T_reset_69 : decode b_T_reset 69 = .ok (.aload_n 0, 1) := by decide +kernel
theorem d_T_reset_70 : decode b_T_reset 70 = .ok (.iload_n 2, 1) := by decide +kernel
theorem d_T_reset_71 : decode b_T_reset 71 = .ok (.putfield 51, 3) := by decide +kernel
theorem d_T_reset_74 : decode b_T_reset 74 = .ok (.aload_n 0, 1) := by decide +kernel
theorem d_T_reset_75 : decode b_T_reset 75 = .ok (.iconst 0, 1) := by decide +kernel
theorem d_T_reset_76 : decode b_T_reset 76 = .ok (.putfield 54, 3) := by decide +kernel
theorem d_T_reset_79 : decode b_T_reset 79 = .ok (.return_, 1) := by decide +kernel
theorem d_T_lineCount_0 : decode b_T_lineCount 0 = .ok (.aload_n 0, 1) := by decide +kernel
theorem d_T_lineCount_1 : decode b_T_lineCount 1 = .ok (.getfield 18, 3) := by decide +kernel
theorem d_T_lineCount_4 : decode b_T_lineCount 4 = .ok (.invokevirtual 39, 3) := by decide +kernel
theorem d_T_lineCount_7 : decode b_T_lineCount 7 = .ok (.ireturn, 1) := by decide +kernel
theorem d_T_pageCount_0 : decode b_T_pageCount 0 = .ok (.aload_n 0, 1) := by decide +kernel
theorem d_T_pageCount_1 : decode b_T_pageCount 1 = .ok (.getfield 33, 3) := by decide +kernel
theorem d_T_pageCount_4 : decode b_T_pageCount 4 = .ok (.invokevirtual 39, 3) := by decide +kernel
theorem d_T_pageCount_7 : decode b_T_pageCount 7 = .ok (.ireturn, 1) := by decide +kernel
theorem d_S_layParts_0 : decode b_S_layParts 0 = .ok (.aload_n 0, 1) := by decide +kernel
theorem d_S_layParts_1 : decode b_S_layParts 1 = .ok (.getfield 21, 3) := by decide +kernel
theorem d_S_layParts_4 : decode b_S_layParts 4 = .ok (.invokevirtual 37, 3) := by decide +kernel
theorem d_S_layParts_7 : decode b_S_layParts 7 = .ok (.istore_n 3, 1) := by decide +kernel
theorem d_S_layParts_8 : decode b_S_layParts 8 = .ok (.aload_n 1, 1) := by decide +kernel
theorem d_S_layParts_9 : decode b_S_layParts 9 = .ok (.getfield 41, 3) := by decide +kernel
theorem d_S_layParts_12 : decode b_S_layParts 12 = .ok (.bipush (7), 2) := by decide +kernel
theorem d_S_layParts_14 : decode b_S_layParts 14 = .ok (.if_icmp .ne (11), 3) := by decide +kernel
theorem d_S_layParts_17 : decode b_S_layParts 17 = .ok (.aload_n 0, 1) := by decide +kernel
theorem d_S_layParts_18 : decode b_S_layParts 18 = .ok (.aload_n 1, 1) := by decide +kernel
theorem d_S_layParts_19 : decode b_S_layParts 19 = .ok (.invokevirtual 47, 3) := by decide +kernel
theorem d_S_layParts_22 : decode b_S_layParts 22 = .ok (.ifCond .eq (7), 3) := by decide +kernel
theorem d_S_layParts_25 : decode b_S_layParts 25 = .ok (.iconst 1, 1) := by decide +kernel
theorem d_S_layParts_26 : decode b_S_layParts 26 = .ok (.goto (4), 3) := by decide +kernel
theorem d_S_layParts_29 : decode b_S_layParts 29 = .ok (.iconst 0, 1) := by decide +kernel
theorem d_S_layParts_30 : decode b_S_layParts 30 = .ok (.istore 4, 2) := by decide +kernel
theorem d_S_layParts_32 : decode b_S_layParts 32 = .ok (.aload_n 1, 1) := by decide +kernel
theorem d_S_layParts_33 : decode b_S_layParts 33 = .ok (.getfield 51, 3) := by decide +kernel
theorem d_S_layParts_36 : decode b_S_layParts 36 = .ok (.astore 5, 2) := by decide +kernel
theorem d_S_layParts_38 : decode b_S_layParts 38 = .ok (.aload 5, 2) := by decide +kernel
theorem d_S_layParts_40 : decode b_S_layParts 40 = .ok (.ifnull (60), 3) := by decide +kernel
theorem d_S_layParts_43 : decode b_S_layParts 43 = .ok (.aload 5, 2) := by decide +kernel
theorem d_S_layParts_45 : decode b_S_layParts 45 = .ok (.invokevirtual 55, 3) := by decide +kernel
theorem d_S_layParts_48 : decode b_S_layParts 48 = .ok (.astore 6, 2) := by decide +kernel
theorem d_S_layParts_50 : decode b_S_layParts 50 = .ok (.iload 4, 2) := by decide +kernel
theorem d_S_layParts_52 : decode b_S_layParts 52 = .ok (.ifCond .eq (29), 3) := by decide +kernel
theorem d_S_layParts_55 : decode b_S_layParts 55 = .ok (.aload_n 0, 1) := by decide +kernel
theorem d_S_layParts_56 : decode b_S_layParts 56 = .ok (.getfield 21, 3) := by decide +kernel
theorem d_S_layParts_59 : decode b_S_layParts 59 = .ok (.invokevirtual 37, 3) := by decide +kernel
theorem d_S_layParts_62 : decode b_S_layParts 62 = .ok (.iload_n 3, 1) := by decide +kernel
theorem d_S_layParts_63 : decode b_S_layParts 63 = .ok (.if_icmp .le (18), 3) := by decide +kernel
theorem d_S_layParts_66 : decode b_S_layParts 66 = .ok (.aload_n 0, 1) := by decide +kernel
theorem d_S_layParts_67 : decode b_S_layParts 67 = .ok (.aload 5, 2) := by decide +kernel
theorem d_S_layParts_69 : decode b_S_layParts 69 = .ok (.aload 6, 2) := by decide +kernel
theorem d_S_layParts_71 : decode b_S_layParts 71 = .ok (.invokevirtual 59, 3) := by decide +kernel
theorem d_S_layParts_74 : decode b_S_layParts 74 = .ok (.ifCond .eq (7), 3) := by decide +kernel
theorem d_S_layParts_77 : decode b_S_layParts 77 = .ok (.aload_n 0, 1) := by decide +kernel
theorem d_S_layParts_78 : decode b_S_layParts 78 = .ok (.invokevirtual 63, 3) := by decide +kernel
theorem d_S_layParts_81 : decode b_S_layParts 81 = .ok (.aload_n 0, 1) := by decide +kernel
theorem d_S_layParts_82 : decode b_S_layParts 82 = .ok (.aload 5, 2) := by decide +kernel
