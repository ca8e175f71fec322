theorem d_S_hasWords_0 : decode b_S_hasWords 0 = .ok (.iload_n 1, 1) := by decide +kernel
theorem d_S_hasWords_1 : decode b_S_hasWords 1 = .ok (.istore_n 3, 1) := by decide +kernel
theorem d_S_hasWords_2 : decode b_S_hasWords 2 = .ok (.iload_n 3, 1) := by decide +kernel
theorem d_S_hasWords_3 : decode b_S_hasWords 3 = .ok (.iload_n 2, 1) := by decide +kernel
theorem d_S_hasWords_4 : decode b_S_hasWords 4 = .ok (.if_icmp .ge (25), 3) := by decide +kernel
theorem d_S_hasWords_7 : decode b_S_hasWords 7 = .ok (.aload_n 0, 1) := by decide +kernel
theorem d_S_hasWords_8 : decode b_S_hasWords 8 = .ok (.getfield 12, 3) := by decide +kernel
theorem d_S_hasWords_11 : decode b_S_hasWords 11 = .ok (.iload_n 3, 1) := by decide +kernel
theorem d_S_hasWords_12 : decode b_S_hasWords 12 = .ok (.invokevirtual 125, 3) := by decide +kernel
theorem d_S_hasWords_15 : decode b_S_hasWords 15 = .ok (.invokestatic 148, 3) := by decide +kernel
theorem d_S_hasWords_18 : decode b_S_hasWords 18 = .ok (.ifCond .ne (5), 3) := by decide +kernel
theorem d_S_hasWords_21 : decode b_S_hasWords 21 = .ok (.iconst 1, 1) := by decide +kernel
theorem d_S_hasWords_22 : decode b_S_hasWords 22 = .ok (.ireturn, 1) := by decide +kernel
theorem d_S_hasWords_23 : decode b_S_hasWords 23 = .ok (.iinc 3 (1), 3) := by decide +kernel
theorem d_S_hasWords_26 : decode b_S_hasWords 26 = .ok (.goto (-24), 3) := by decide +kernel
theorem d_S_hasWords_29 : decode b_S_hasWords 29 = .ok (.iconst 0, 1) := by decide +kernel
theorem d_S_hasWords_30 : decode b_S_hasWords 30 = .ok (.ireturn, 1) := by decide +kernel
theorem d_S_narrower_0 : decode b_S_narrower 0 = .ok (.iconst 4, 1) := by decide +kernel
theorem d_S_narrower_1 : decode b_S_narrower 1 = .ok (.iload_n 0, 1) := by decide +kernel
theorem d_S_narrower_2 : decode b_S_narrower 2 = .ok (.iload_n 1, 1) := by decide +kernel
theorem d_S_narrower_3 : decode b_S_narrower 3 = .ok (.isub, 1) := by decide +kernel
theorem d_S_narrower_4 : decode b_S_narrower 4 = .ok (.invokestatic 174, 3) := by decide +kernel
theorem d_S_narrower_7 : decode b_S_narrower 7 = .ok (.ireturn, 1) := by decide +kernel
theorem d_T_init_0 : decode b_T_init 0 = .ok (.aload_n 0, 1) := by decide +kernel
theorem d_T_init_1 : decode b_T_init 1 = .ok (.invokespecial 3, 3) := by decide +kernel
theorem d_T_init_4 : decode b_T_init 4 = .ok (.aload_n 0, 1) := by decide +kernel
theorem d_T_init_5 : decode b_T_init 5 = .ok (.new 9, 3) := by decide +kernel
theorem d_T_init_8 : decode b_T_init 8 = .ok (.dup, 1) := by decide +kernel
theorem d_T_init_9 : decode b_T_init 9 = .ok (.invokespecial 11, 3) := by decide +kernel
theorem d_T_init_12 : decode b_T_init 12 = .ok (.putfield 12, 3) := by decide +kernel
theorem d_T_init_15 : decode b_T_init 15 = .ok (.aload_n 0, 1) := by decide +kernel
theorem d_T_init_16 : decode b_T_init 16 = .ok (.new 9, 3) := by decide +kernel
theorem d_T_init_19 : decode b_T_init 19 = .ok (.dup, 1) := by decide +kernel
theorem d_T_init_20 : decode b_T_init 20 = .ok (.invokespecial 11, 3) := by decide +kernel
theorem d_T_init_23 : decode b_T_init 23 = .ok (.putfield 18, 3) := by decide +kernel
theorem d_T_init_26 : decode b_T_init 26 = .ok (.aload_n 0, 1) := by decide +kernel
theorem d_T_init_27 : decode b_T_init 27 = .ok (.new 9, 3) := by decide +kernel
theorem d_T_init_30 : decode b_T_init 30 = .ok (.dup, 1) := by decide +kernel
theorem d_T_init_31 : decode b_T_init 31 = .ok (.invokespecial 11, 3) := by decide +kernel
theorem d_T_init_34 : decode b_T_init 34 = .ok (.putfield 21, 3) := by decide +kernel
theorem d_T_init_37 : decode b_T_init 37 = .ok (.aload_n 0, 1) := by decide +kernel
theorem d_T_init_38 : decode b_T_init 38 = .ok (.new 9, 3) := by decide +kernel
theorem d_T_init_41 : decode b_T_init 41 = .ok (.dup, 1) := by decide +kernel
theorem d_T_init_42 : decode b_T_init 42 = .ok (.invokespecial 11, 3) := by decide +kernel
theorem d_T_init_45 : decode b_T_init 45 = .ok (.putfield 24, 3) := by decide +kernel
theorem d_T_init_48 : decode b_T_init 48 = .ok (.aload_n 0, 1) := by decide +kernel
theorem d_T_init_49 : decode b_T_init 49 = .ok (.new 9, 3) := by decide +kernel
theorem d_T_init_52 : decode b_T_init 52 = .ok (.dup, 1) := by decide +kernel
theorem d_T_init_53 : decode b_T_init 53 = .ok (.invokespecial 11, 3) := by decide +kernel
theorem d_T_init_56 : decode b_T_init 56 = .ok (.putfield 27, 3) := by decide +kernel
theorem d_T_init_59 : decode b_T_init 59 = .ok (.aload_n 0, 1) := by decide +kernel
theorem d_T_init_60 : decode b_T_init 60 = .ok (.new 9, 3) := by decide +kernel
theorem d_T_init_63 : decode b_T_init 63 = .ok (.dup, 1) := by decide +kernel
theorem d_T_init_64 : decode b_T_init 64 = .ok (.invokespecial 11, 3) := by decide +kernel
theorem d_T_init_67 : decode b_T_init 67 = .ok (.putfield 30, 3) := by decide +kernel
theorem d_T_init_70 : decode b_T_init 70 = .ok (.aload_n 0, 1) := by decide +kernel
theorem d_T_init_71 : decode b_T_init 71 = .ok (.new 9, 3) := by decide +kernel
theorem d_T_init_74 : decode b_T_init 74 = .ok (.dup, 1) := by decide +kernel
theorem d_T_init_75 : decode b_T_init 75 = .ok (.invokespecial 11, 3) := by decide +kernel
theorem d_T_init_78 : decode b_T_init 78 = .ok (.putfield 33, 3) := by decide +kernel
theorem d_T_init_81 : decode b_T_init 81 = .ok (.aload_n 0, 1) := by decide +kernel
theorem d_T_init_82 : decode b_T_init 82 = .ok (.new 9, 3) := by decide +kernel
theorem d_T_init_85 : decode b_T_init 85 = .ok (.dup, 1) := by decide +kernel
theorem d_T_init_86 : decode b_T_init 86 = .ok (.invokespecial 11, 3) := by decide +kernel
theorem d_T_init_89 : decode b_T_init 89 = .ok (.putfield 36, 3) := by decide +kernel
theorem d_T_init_92 : decode b_T_init 92 = .ok (.return_, 1) := by decide +kernel
theorem d_T_lineCount_0 : decode b_T_lineCount 0 = .ok (.aload_n 0, 1) := by decide +kernel
theorem d_T_lineCount_1 : decode b_T_lineCount 1 = .ok (.getfield 18, 3) := by decide +kernel
theorem d_T_lineCount_4 : decode b_T_lineCount 4 = .ok (.invokevirtual 39, 3) := by decide +kernel
theorem d_T_lineCount_7 : decode b_T_lineCount 7 = .ok (.ireturn, 1) := by decide +kernel
theorem d_T_pageCount_0 : decode b_T_pageCount 0 = .ok (.aload_n 0, 1) := by decide +kernel
theorem d_T_pageCount_1 : decode b_T_pageCount 1 = .ok (.getfield 33, 3) := by decide +kernel
theorem d_T_pageCount_4 : decode b_T_pageCount 4 = .ok (.invokevirtual 39, 3) := by decide +kernel
theorem d_T_pageCount_7 : decode b_T_pageCount 7 = .ok (.ireturn, 1) := by decide +kernel
theorem d_T_reset_0 : decode b_T_reset 0 = .ok (.aload_n 0, 1) := by decide +kernel
theorem d_T_reset_1 : decode b_T_reset 1 = .ok (.getfield 12, 3) := by decide +kernel
theorem d_T_reset_4 : decode b_T_reset 4 = .ok (.iconst 0, 1) := by decide +kernel
theorem d_T_reset_5 : decode b_T_reset 5 = .ok (.invokevirtual 43, 3) := by decide +kernel
theorem d_T_reset_8 : decode b_T_reset 8 = .ok (.aload_n 0, 1) := by decide +kernel
theorem d_T_reset_9 : decode b_T_reset 9 = .ok (.getfield 18, 3) := by decide +kernel
theorem d_T_reset_12 : decode b_T_reset 12 = .ok (.iconst 0, 1) := by decide +kernel
theorem d_T_reset_13 : decode b_T_reset 13 = .ok (.invokevirtual 43, 3) := by decide +kernel
theorem d_T_reset_16 : decode b_T_reset 16 = .ok (.aload_n 0, 1) := by decide +kernel
theorem d_T_reset_17 : decode b_T_reset 17 = .ok (.getfield 21, 3) := by decide +kernel
theorem d_T_reset_20 : decode b_T_reset 20 = .ok (.iconst 0, 1) := by decide +kernel
theorem d_T_reset_21 : decode b_T_reset 21 = .ok (.invokevirtual 43, 3) := by decide +kernel
theorem d_T_reset_24 : decode b_T_reset 24 = .ok (.aload_n 0, 1) := by decide +kernel
theorem d_T_reset_25 : decode b_T_reset 25 = .ok (.getfield 24, 3) := by decide +kernel
theorem d_T_reset_28 : decode b_T_reset 28 = .ok (.iconst 0, 1) := by decide +kernel
theorem d_T_reset_29 : decode b_T_reset 29 = .ok (.invokevirtual 43, 3) := by decide +kernel
theorem d_T_reset_32 : decode b_T_reset 32 = .ok (.aload_n 0, 1) := by decide +kernel
theorem d_T_reset_33 : decode b_T_reset 33 = .ok (.getfield 27, 3) := by decide +kernel
theorem d_T_reset_36 : decode b_T_reset 36 = .ok (.iconst 0, 1) := by decide +kernel
theorem d_T_reset_37 : decode b_T_reset 37 = .ok (.invokevirtual 43, 3) := by decide +kernel
theorem d_T_reset_40 : decode b_T_reset 40 = .ok (.aload_n 0, 1) := by decide +kernel
theorem d_T_reset_41 : decode b_T_reset 41 = .ok (.getfield 30, 3) := by decide +kernel
theorem d_T_reset_44 : decode b_T_reset 44 = .ok (.iconst 0, 1) := by decide +kernel
theorem d_T_reset_45 : decode b_T_reset 45 = .ok (.invokevirtual 43, 3) := by decide +kernel
theorem d_T_reset_48 : decode b_T_reset 48 = .ok (.aload_n 0, 1) := by decide +kernel
theorem d_T_reset_49 : decode b_T_reset 49 = .ok (.getfield 33, 3) := by decide +kernel
theorem d_T_reset_52 : decode b_T_reset 52 = .ok (.iconst 0, 1) := by decide +kernel
theorem d_T_reset_53 : decode b_T_reset 53 = .ok (.invokevirtual 43, 3) := by decide +kernel
theorem d_T_reset_56 : decode b_T_reset 56 = .ok (.aload_n 0, 1) := by decide +kernel
theorem d_T_reset_57 : decode b_T_reset 57 = .ok (.getfield 36, 3) := by decide +kernel
theorem d_T_reset_60 : decode b_T_reset 60 = .ok (.iconst 0, 1) := by decide +kernel
theorem d_T_reset_61 : decode b_T_reset 61 = .ok (.invokevirtual 43, 3) := by decide +kernel
theorem d_T_reset_64 : decode b_T_reset 64 = .ok (.aload_n 0, 1) := by decide +kernel
theorem d_T_reset_65 : decode b_T_reset 65 = .ok (.iload_n 1, 1) := by decide +kernel
theorem d_T_reset_66 : decode b_T_reset 66 = .ok (.putfield 47, 3) := by decide +kernel
theorem d_T_reset_69 : decode b_T_reset 69 = .ok (.aload_n 0, 1) := by decide +kernel
theorem d_T_reset_70 : decode b_T_reset 70 = .ok (.iload_n 2, 1) := by decide +kernel
theorem d_T_reset_71 : decode b_T_reset 71 = .ok (.putfield 51, 3) := by decide +kernel
theorem d_T_reset_74 : decode b_T_reset 74 = .ok (.aload_n 0, 1) := by decide +kernel
theorem d_T_reset_75 : decode b_T_reset 75 = .ok (.iconst 0, 1) := by decide +kernel
theorem d_T_reset_76 : decode b_T_reset 76 = .ok (.putfield 54, 3) := by decide +kernel
theorem d_T_reset_79 : decode b_T_reset 79 = .ok (.return_, 1) := by decide +kernel
theorem d_T_addLine_0 : decode b_T_addLine 0 = .ok (.aload_n 0, 1) := by decide +kernel
theorem d_T_addLine_1 : decode b_T_addLine 1 = .ok (.getfield 18, 3) := by decide +kernel
theorem d_T_addLine_4 : decode b_T_addLine 4 = .ok (.invokevirtual 39, 3) := by decide +kernel
theorem d_T_addLine_7 : decode b_T_addLine 7 = .ok (.sipush (1500), 3) := by decide +kernel
theorem d_T_addLine_10 : decode b_T_addLine 10 = .ok (.if_icmp .lt (9), 3) := by decide +kernel
theorem d_T_addLine_13 : decode b_T_addLine 13 = .ok (.aload_n 0, 1) := by decide +kernel
theorem d_T_addLine_14 : decode b_T_addLine 14 = .ok (.iconst 1, 1) := by decide +kernel
theorem d_T_addLine_15 : decode b_T_addLine 15 = .ok (.putfield 54, 3) := by decide +kernel
theorem d_T_addLine_18 : decode b_T_addLine 18 = .ok (.return_, 1) := by decide +kernel
theorem d_T_addLine_19 : decode b_T_addLine 19 = .ok (.aload_n 0, 1) := by decide +kernel
theorem d_T_addLine_20 : decode b_T_addLine 20 = .ok (.getfield 12, 3) := by decide +kernel
theorem d_T_addLine_23 : decode b_T_addLine 23 = .ok (.invokevirtual 39, 3) := by decide +kernel
theorem d_T_addLine_26 : decode b_T_addLine 26 = .ok (.istore 4, 2) := by decide +kernel
theorem d_T_addLine_28 : decode b_T_addLine 28 = .ok (.aload_n 0, 1) := by decide +kernel
theorem d_T_addLine_29 : decode b_T_addLine 29 = .ok (.getfield 12, 3) := by decide +kernel
theorem d_T_addLine_32 : decode b_T_addLine 32 = .ok (.aload_n 1, 1) := by decide +kernel
theorem d_T_addLine_33 : decode b_T_addLine 33 = .ok (.invokevirtual 58, 3) := by decide +kernel
theorem d_T_addLine_36 : decode b_T_addLine 36 = .ok (.aload_n 0, 1) := by decide +kernel
theorem d_T_addLine_37 : decode b_T_addLine 37 = .ok (.getfield 12, 3) := by decide +kernel
theorem d_T_addLine_40 : decode b_T_addLine 40 = .ok (.aload_n 2, 1) := by decide +kernel
theorem d_T_addLine_41 : decode b_T_addLine 41 = .ok (.invokevirtual 58, 3) := by decide +kernel
theorem d_T_addLine_44 : decode b_T_addLine 44 = .ok (.aload_n 0, 1) := by decide +kernel
theorem d_T_addLine_45 : decode b_T_addLine 45 = .ok (.getfield 12, 3) := by decide +kernel
theorem d_T_addLine_48 : decode b_T_addLine 48 = .ok (.invokevirtual 39, 3) := by decide +kernel
theorem d_T_addLine_51 : decode b_T_addLine 51 = .ok (.istore 5, 2) := by decide +kernel
theorem d_T_addLine_53 : decode b_T_addLine 53 = .ok (.iload 5, 2) := by decide +kernel
theorem d_T_addLine_55 : decode b_T_addLine 55 = .ok (.iload 4, 2) := by decide +kernel
theorem d_T_addLine_57 : decode b_T_addLine 57 = .ok (.if_icmp .le (25), 3) := by decide +kernel
theorem d_T_addLine_60 : decode b_T_addLine 60 = .ok (.aload_n 0, 1) := by decide +kernel
theorem d_T_addLine_61 : decode b_T_addLine 61 = .ok (.getfield 12, 3) := by decide +kernel
theorem d_T_addLine_64 : decode b_T_addLine 64 = .ok (.iload 5, 2) := by decide +kernel
theorem d_T_addLine_66 : decode b_T_addLine 66 = .ok (.iconst 1, 1) := by decide +kernel
theorem d_T_addLine_67 : decode b_T_addLine 67 = .ok (.isub, 1) := by decide +kernel
theorem d_T_addLine_68 : decode b_T_addLine 68 = .ok (.invokevirtual 62, 3) := by decide +kernel
theorem d_T_addLine_71 : decode b_T_addLine 71 = .ok (.bipush (32), 2) := by decide +kernel
theorem d_T_addLine_73 : decode b_T_addLine 73 = .ok (.if_icmp .ne (9), 3) := by decide +kernel
theorem d_T_addLine_76 : decode b_T_addLine 76 = .ok (.iinc 5 (-1), 3) := by decide +kernel
theorem d_T_addLine_79 : decode b_T_addLine 79 = .ok (.goto (-26), 3) := by decide +kernel
theorem d_T_addLine_82 : decode b_T_addLine 82 = .ok (.aload_n 0, 1) := by decide +kernel
theorem d_T_addLine_83 : decode b_T_addLine 83 = .ok (.getfield 12, 3) := by decide +kernel
theorem d_T_addLine_86 : decode b_T_addLine 86 = .ok (.iload 5, 2) := by decide +kernel
theorem d_T_addLine_88 : decode b_T_addLine 88 = .ok (.invokevirtual 43, 3) := by decide +kernel
theorem d_T_addLine_91 : decode b_T_addLine 91 = .ok (.aload_n 0, 1) := by decide +kernel
theorem d_T_addLine_92 : decode b_T_addLine 92 = .ok (.getfield 18, 3) := by decide +kernel
theorem d_T_addLine_95 : decode b_T_addLine 95 = .ok (.iload 4, 2) := by decide +kernel
theorem d_T_addLine_97 : decode b_T_addLine 97 = .ok (.invokevirtual 66, 3) := by decide +kernel
theorem d_T_addLine_100 : decode b_T_addLine 100 = .ok (.aload_n 0, 1) := by decide +kernel
theorem d_T_addLine_101 : decode b_T_addLine 101 = .ok (.getfield 21, 3) := by decide +kernel
theorem d_T_addLine_104 : decode b_T_addLine 104 = .ok (.iload 5, 2) := by decide +kernel
theorem d_T_addLine_106 : decode b_T_addLine 106 = .ok (.iload 4, 2) := by decide +kernel
theorem d_T_addLine_108 : decode b_T_addLine 108 = .ok (.isub, 1) := by decide +kernel
theorem d_T_addLine_109 : decode b_T_addLine 109 = .ok (.invokevirtual 66, 3) := by decide +kernel
theorem d_T_addLine_112 : decode b_T_addLine 112 = .ok (.aload_n 0, 1) := by decide +kernel
theorem d_T_addLine_113 : decode b_T_addLine 113 = .ok (.getfield 24, 3) := by decide +kernel
theorem d_T_addLine_116 : decode b_T_addLine 116 = .ok (.iconst (-1), 1) := by decide +kernel
theorem d_T_addLine_117 : decode b_T_addLine 117 = .ok (.invokevirtual 66, 3) := by decide +kernel
theorem d_T_addLine_120 : decode b_T_addLine 120 = .ok (.aload_n 0, 1) := by decide +kernel
theorem d_T_addLine_121 : decode b_T_addLine 121 = .ok (.getfield 27, 3) := by decide +kernel
theorem d_T_addLine_124 : decode b_T_addLine 124 = .ok (.iconst 0, 1) := by decide +kernel
theorem d_T_addLine_125 : decode b_T_addLine 125 = .ok (.invokevirtual 66, 3) := by decide +kernel
theorem d_T_addLine_128 : decode b_T_addLine 128 = .ok (.aload_n 0, 1) := by decide +kernel
theorem d_T_addLine_129 : decode b_T_addLine 129 = .ok (.getfield 30, 3) := by decide +kernel
theorem d_T_addLine_132 : decode b_T_addLine 132 = .ok (.iload_n 3, 1) := by decide +kernel
theorem d_T_addLine_133 : decode b_T_addLine 133 = .ok (.invokevirtual 66, 3) := by decide +kernel
theorem d_T_addLine_136 : decode b_T_addLine 136 = .ok (.return_, 1) := by decide +kernel
theorem d_T_fillPages_0 : decode b_T_fillPages 0 = .ok (.iconst 0, 1) := by decide +kernel
theorem d_T_fillPages_1 : decode b_T_fillPages 1 = .ok (.istore_n 1, 1) := by decide +kernel
theorem d_T_fillPages_2 : decode b_T_fillPages 2 = .ok (.iconst 0, 1) := by decide +kernel
theorem d_T_fillPages_3 : decode b_T_fillPages 3 = .ok (.istore_n 2, 1) := by decide +kernel
theorem d_T_fillPages_4 : decode b_T_fillPages 4 = .ok (.iload_n 2, 1) := by decide +kernel
theorem d_T_fillPages_5 : decode b_T_fillPages 5 = .ok (.aload_n 0, 1) := by decide +kernel
theorem d_T_fillPages_6 : decode b_T_fillPages 6 = .ok (.invokevirtual 69, 3) := by decide +kernel
theorem d_T_fillPages_9 : decode b_T_fillPages 9 = .ok (.if_icmp .ge (101), 3) := by decide +kernel
theorem d_T_fillPages_12 : decode b_T_fillPages 12 = .ok (.iload_n 1, 1) := by decide +kernel
theorem d_T_fillPages_13 : decode b_T_fillPages 13 = .ok (.aload_n 0, 1) := by decide +kernel
theorem d_T_fillPages_14 : decode b_T_fillPages 14 = .ok (.getfield 47, 3) := by decide +kernel
theorem d_T_fillPages_17 : decode b_T_fillPages 17 = .ok (.if_icmp .ge (16), 3) := by decide +kernel
theorem d_T_fillPages_20 : decode b_T_fillPages 20 = .ok (.iload_n 1, 1) := by decide +kernel
theorem d_T_fillPages_21 : decode b_T_fillPages 21 = .ok (.ifCond .le (14), 3) := by decide +kernel
theorem d_T_fillPages_24 : decode b_T_fillPages 24 = .ok (.aload_n 0, 1) := by decide +kernel
theorem d_T_fillPages_25 : decode b_T_fillPages 25 = .ok (.iload_n 2, 1) := by decide +kernel
theorem d_T_fillPages_26 : decode b_T_fillPages 26 = .ok (.iload_n 1, 1) := by decide +kernel
theorem d_T_fillPages_27 : decode b_T_fillPages 27 = .ok (.invokevirtual 72, 3) := by decide +kernel
theorem d_T_fillPages_30 : decode b_T_fillPages 30 = .ok (.ifCond .eq (5), 3) := by decide +kernel
theorem d_T_fillPages_33 : decode b_T_fillPages 33 = .ok (.iconst 0, 1) := by decide +kernel
theorem d_T_fillPages_34 : decode b_T_fillPages 34 = .ok (.istore_n 1, 1) := by decide +kernel
theorem d_T_fillPages_35 : decode b_T_fillPages 35 = .ok (.iload_n 1, 1) := by decide +kernel
theorem d_T_fillPages_36 : decode b_T_fillPages 36 = .ok (.ifCond .ne (17), 3) := by decide +kernel
theorem d_T_fillPages_39 : decode b_T_fillPages 39 = .ok (.aload_n 0, 1) := by decide +kernel
theorem d_T_fillPages_40 : decode b_T_fillPages 40 = .ok (.getfield 21, 3) := by decide +kernel
theorem d_T_fillPages_43 : decode b_T_fillPages 43 = .ok (.iload_n 2, 1) := by decide +kernel
theorem d_T_fillPages_44 : decode b_T_fillPages 44 = .ok (.invokevirtual 62, 3) := by decide +kernel
theorem d_T_fillPages_47 : decode b_T_fillPages 47 = .ok (.ifCond .ne (6), 3) := by decide +kernel
theorem d_T_fillPages_50 : decode b_T_fillPages 50 = .ok (.goto (54), 3) := by decide +kernel
theorem d_T_fillPages_53 : decode b_T_fillPages 53 = .ok (.iload_n 1, 1) := by decide +kernel
theorem d_T_fillPages_54 : decode b_T_fillPages 54 = .ok (.ifCond .ne (19), 3) := by decide +kernel
theorem d_T_fillPages_57 : decode b_T_fillPages 57 = .ok (.aload_n 0, 1) := by decide +kernel
theorem d_T_fillPages_58 : decode b_T_fillPages 58 = .ok (.getfield 33, 3) := by decide +kernel
theorem d_T_fillPages_61 : decode b_T_fillPages 61 = .ok (.iload_n 2, 1) := by decide +kernel
theorem d_T_fillPages_62 : decode b_T_fillPages 62 = .ok (.invokevirtual 66, 3) := by decide +kernel
theorem d_T_fillPages_65 : decode b_T_fillPages 65 = .ok (.aload_n 0, 1) := by decide +kernel
theorem d_T_fillPages_66 : decode b_T_fillPages 66 = .ok (.getfield 36, 3) := by decide +kernel
theorem d_T_fillPages_69 : decode b_T_fillPages 69 = .ok (.iconst 0, 1) := by decide +kernel
theorem d_T_fillPages_70 : decode b_T_fillPages 70 = .ok (.invokevirtual 66, 3) := by decide +kernel
theorem d_T_fillPages_73 : decode b_T_fillPages 73 = .ok (.iinc 1 (1), 3) := by decide +kernel
theorem d_T_fillPages_76 : decode b_T_fillPages 76 = .ok (.aload_n 0, 1) := by decide +kernel
theorem d_T_fillPages_77 : decode b_T_fillPages 77 = .ok (.getfield 24, 3) := by decide +kernel
theorem d_T_fillPages_80 : decode b_T_fillPages 80 = .ok (.iload_n 2, 1) := by decide +kernel
theorem d_T_fillPages_81 : decode b_T_fillPages 81 = .ok (.aload_n 0, 1) := by decide +kernel
theorem d_T_fillPages_82 : decode b_T_fillPages 82 = .ok (.invokevirtual 76, 3) := by decide +kernel
theorem d_T_fillPages_85 : decode b_T_fillPages 85 = .ok (.iconst 1, 1) := by decide +kernel
theorem d_T_fillPages_86 : decode b_T_fillPages 86 = .ok (.isub, 1) := by decide +kernel
theorem d_T_fillPages_87 : decode b_T_fillPages 87 = .ok (.invokevirtual 79, 3) := by decide +kernel
theorem d_T_fillPages_90 : decode b_T_fillPages 90 = .ok (.aload_n 0, 1) := by decide +kernel
theorem d_T_fillPages_91 : decode b_T_fillPages 91 = .ok (.getfield 36, 3) := by decide +kernel
theorem d_T_fillPages_94 : decode b_T_fillPages 94 = .ok (.aload_n 0, 1) := by decide +kernel
theorem d_T_fillPages_95 : decode b_T_fillPages 95 = .ok (.invokevirtual 76, 3) := by decide +kernel
theorem d_T_fillPages_98 : decode b_T_fillPages 98 = .ok (.iconst 1, 1) := by decide +kernel
theorem d_T_fillPages_99 : decode b_T_fillPages 99 = .ok (.isub, 1) := by decide +kernel
theorem d_T_fillPages_100 : decode b_T_fillPages 100 = .ok (.iload_n 1, 1) := by decide +kernel
theorem d_T_fillPages_101 : decode b_T_fillPages 101 = .ok (.invokevirtual 79, 3) := by decide +kernel
theorem d_T_fillPages_104 : decode b_T_fillPages 104 = .ok (.iinc 2 (1), 3) := by decide +kernel
theorem d_T_fillPages_107 : decode b_T_fillPages 107 = .ok (.goto (-103), 3) := by decide +kernel
theorem d_T_fillPages_110 : decode b_T_fillPages 110 = .ok (.aload_n 0, 1) := by decide +kernel
theorem d_T_fillPages_111 : decode b_T_fillPages 111 = .ok (.invokevirtual 76, 3) := by decide +kernel
theorem d_T_fillPages_114 : decode b_T_fillPages 114 = .ok (.ifCond .ne (22), 3) := by decide +kernel
theorem d_T_fillPages_117 : decode b_T_fillPages 117 = .ok (.aload_n 0, 1) := by decide +kernel
theorem d_T_fillPages_118 : decode b_T_fillPages 118 = .ok (.getfield 33, 3) := by decide +kernel
theorem d_T_fillPages_121 : decode b_T_fillPages 121 = .ok (.aload_n 0, 1) := by decide +kernel
theorem d_T_fillPages_122 : decode b_T_fillPages 122 = .ok (.invokevirtual 69, 3) := by decide +kernel
theorem d_T_fillPages_125 : decode b_T_fillPages 125 = .ok (.invokevirtual 66, 3) := by decide +kernel
theorem d_T_fillPages_128 : decode b_T_fillPages 128 = .ok (.aload_n 0, 1) := by decide +kernel
theorem d_T_fillPages_129 : decode b_T_fillPages 129 = .ok (.getfield 36, 3) := by decide +kernel
theorem d_T_fillPages_132 : decode b_T_fillPages 132 = .ok (.iconst 0, 1) := by decide +kernel
theorem d_T_fillPages_133 : decode b_T_fillPages 133 = .ok (.invokevirtual 66, 3) := by decide +kernel
theorem d_T_fillPages_136 : decode b_T_fillPages 136 = .ok (.return_, 1) := by decide +kernel
theorem d_T_isPageEndedBy_0 : decode b_T_isPageEndedBy 0 = .ok (.aload_n 0, 1) := by decide +kernel
theorem d_T_isPageEndedBy_1 : decode b_T_isPageEndedBy 1 = .ok (.getfield 27, 3) := by decide +kernel
theorem d_T_isPageEndedBy_4 : decode b_T_isPageEndedBy 4 = .ok (.iload_n 1, 1) := by decide +kernel
theorem d_T_isPageEndedBy_5 : decode b_T_isPageEndedBy 5 = .ok (.invokevirtual 62, 3) := by decide +kernel
theorem d_T_isPageEndedBy_8 : decode b_T_isPageEndedBy 8 = .ok (.istore_n 3, 1) := by decide +kernel
theorem d_T_isPageEndedBy_9 : decode b_T_isPageEndedBy 9 = .ok (.iload_n 3, 1) := by decide +kernel
theorem d_T_isPageEndedBy_10 : decode b_T_isPageEndedBy 10 = .ok (.ifCond .gt (5), 3) := by decide +kernel
theorem d_T_isPageEndedBy_13 : decode b_T_isPageEndedBy 13 = .ok (.iconst 0, 1) := by decide +kernel
theorem d_T_isPageEndedBy_14 : decode b_T_isPageEndedBy 14 = .ok (.ireturn, 1) := by decide +kernel
theorem d_T_isPageEndedBy_15 : decode b_T_isPageEndedBy 15 = .ok (.iload_n 1, 1) := by decide +kernel
theorem d_T_isPageEndedBy_16 : decode b_T_isPageEndedBy 16 = .ok (.iload_n 3, 1) := by decide +kernel
theorem d_T_isPageEndedBy_17 : decode b_T_isPageEndedBy 17 = .ok (.iadd, 1) := by decide +kernel
theorem d_T_isPageEndedBy_18 : decode b_T_isPageEndedBy 18 = .ok (.istore 4, 2) := by decide +kernel
theorem d_T_isPageEndedBy_20 : decode b_T_isPageEndedBy 20 = .ok (.iload 4, 2) := by decide +kernel
theorem d_T_isPageEndedBy_22 : decode b_T_isPageEndedBy 22 = .ok (.aload_n 0, 1) := by decide +kernel
theorem d_T_isPageEndedBy_23 : decode b_T_isPageEndedBy 23 = .ok (.invokevirtual 69, 3) := by decide +kernel
theorem d_T_isPageEndedBy_26 : decode b_T_isPageEndedBy 26 = .ok (.if_icmp .ge (21), 3) := by decide +kernel
theorem d_T_isPageEndedBy_29 : decode b_T_isPageEndedBy 29 = .ok (.aload_n 0, 1) := by decide +kernel
theorem d_T_isPageEndedBy_30 : decode b_T_isPageEndedBy 30 = .ok (.getfield 21, 3) := by decide +kernel
theorem d_T_isPageEndedBy_33 : decode b_T_isPageEndedBy 33 = .ok (.iload 4, 2) := by decide +kernel
theorem d_T_isPageEndedBy_35 : decode b_T_isPageEndedBy 35 = .ok (.invokevirtual 62, 3) := by decide +kernel
theorem d_T_isPageEndedBy_38 : decode b_T_isPageEndedBy 38 = .ok (.ifCond .ne (9), 3) := by decide +kernel
theorem d_T_isPageEndedBy_41 : decode b_T_isPageEndedBy 41 = .ok (.iinc 4 (1), 3) := by decide +kernel
theorem d_T_isPageEndedBy_44 : decode b_T_isPageEndedBy 44 = .ok (.goto (-24), 3) := by decide +kernel
theorem d_T_isPageEndedBy_47 : decode b_T_isPageEndedBy 47 = .ok (.iload 4, 2) := by decide +kernel
theorem d_T_isPageEndedBy_49 : decode b_T_isPageEndedBy 49 = .ok (.iconst 1, 1) := by decide +kernel
theorem d_T_isPageEndedBy_50 : decode b_T_isPageEndedBy 50 = .ok (.iadd, 1) := by decide +kernel
theorem d_T_isPageEndedBy_51 : decode b_T_isPageEndedBy 51 = .ok (.aload_n 0, 1) := by decide +kernel
theorem d_T_isPageEndedBy_52 : decode b_T_isPageEndedBy 52 = .ok (.invokevirtual 69, 3) := by decide +kernel
theorem d_T_isPageEndedBy_55 : decode b_T_isPageEndedBy 55 = .ok (.invokestatic 83, 3) := by decide +kernel
theorem d_T_isPageEndedBy_58 : decode b_T_isPageEndedBy 58 = .ok (.iload_n 1, 1) := by decide +kernel
theorem d_T_isPageEndedBy_59 : decode b_T_isPageEndedBy 59 = .ok (.isub, 1) := by decide +kernel
theorem d_T_isPageEndedBy_60 : decode b_T_isPageEndedBy 60 = .ok (.istore 5, 2) := by decide +kernel
theorem d_T_isPageEndedBy_62 : decode b_T_isPageEndedBy 62 = .ok (.iload 5, 2) := by decide +kernel
theorem d_T_isPageEndedBy_64 : decode b_T_isPageEndedBy 64 = .ok (.aload_n 0, 1) := by decide +kernel
theorem d_T_isPageEndedBy_65 : decode b_T_isPageEndedBy 65 = .ok (.getfield 47, 3) := by decide +kernel
theorem d_T_isPageEndedBy_68 : decode b_T_isPageEndedBy 68 = .ok (.if_icmp .gt (18), 3) := by decide +kernel
theorem d_T_isPageEndedBy_71 : decode b_T_isPageEndedBy 71 = .ok (.iload 5, 2) := by decide +kernel
theorem d_T_isPageEndedBy_73 : decode b_T_isPageEndedBy 73 = .ok (.aload_n 0, 1) := by decide +kernel
theorem d_T_isPageEndedBy_74 : decode b_T_isPageEndedBy 74 = .ok (.getfield 47, 3) := by decide +kernel
theorem d_T_isPageEndedBy_77 : decode b_T_isPageEndedBy 77 = .ok (.iload_n 2, 1) := by decide +kernel
theorem d_T_isPageEndedBy_78 : decode b_T_isPageEndedBy 78 = .ok (.isub, 1) := by decide +kernel
theorem d_T_isPageEndedBy_79 : decode b_T_isPageEndedBy 79 = .ok (.if_icmp .le (7), 3) := by decide +kernel
theorem d_T_isPageEndedBy_82 : decode b_T_isPageEndedBy 82 = .ok (.iconst 1, 1) := by decide +kernel
theorem d_T_isPageEndedBy_83 : decode b_T_isPageEndedBy 83 = .ok (.goto (4), 3) := by decide +kernel
theorem d_T_isPageEndedBy_86 : decode b_T_isPageEndedBy 86 = .ok (.iconst 0, 1) := by decide +kernel
theorem d_T_isPageEndedBy_87 : decode b_T_isPageEndedBy 87 = .ok (.ireturn, 1) := by decide +kernel
theorem d_T_pageFrom_0 : decode b_T_pageFrom 0 = .ok (.iload_n 1, 1) := by decide +kernel
theorem d_T_pageFrom_1 : decode b_T_pageFrom 1 = .ok (.istore_n 2, 1) := by decide +kernel
theorem d_T_pageFrom_2 : decode b_T_pageFrom 2 = .ok (.iload_n 2, 1) := by decide +kernel
theorem d_T_pageFrom_3 : decode b_T_pageFrom 3 = .ok (.aload_n 0, 1) := by decide +kernel
theorem d_T_pageFrom_4 : decode b_T_pageFrom 4 = .ok (.invokevirtual 69, 3) := by decide +kernel
theorem d_T_pageFrom_7 : decode b_T_pageFrom 7 = .ok (.if_icmp .ge (41), 3) := by decide +kernel
theorem d_T_pageFrom_10 : decode b_T_pageFrom 10 = .ok (.aload_n 0, 1) := by decide +kernel
theorem d_T_pageFrom_11 : decode b_T_pageFrom 11 = .ok (.getfield 30, 3) := by decide +kernel
theorem d_T_pageFrom_14 : decode b_T_pageFrom 14 = .ok (.iload_n 2, 1) := by decide +kernel
theorem d_T_pageFrom_15 : decode b_T_pageFrom 15 = .ok (.invokevirtual 62, 3) := by decide +kernel
theorem d_T_pageFrom_18 : decode b_T_pageFrom 18 = .ok (.ifCond .ne (24), 3) := by decide +kernel
theorem d_T_pageFrom_21 : decode b_T_pageFrom 21 = .ok (.aload_n 0, 1) := by decide +kernel
theorem d_T_pageFrom_22 : decode b_T_pageFrom 22 = .ok (.getfield 24, 3) := by decide +kernel
theorem d_T_pageFrom_25 : decode b_T_pageFrom 25 = .ok (.iload_n 2, 1) := by decide +kernel
theorem d_T_pageFrom_26 : decode b_T_pageFrom 26 = .ok (.invokevirtual 62, 3) := by decide +kernel
theorem d_T_pageFrom_29 : decode b_T_pageFrom 29 = .ok (.iconst (-1), 1) := by decide +kernel
theorem d_T_pageFrom_30 : decode b_T_pageFrom 30 = .ok (.if_icmp .eq (12), 3) := by decide +kernel
theorem d_T_pageFrom_33 : decode b_T_pageFrom 33 = .ok (.aload_n 0, 1) := by decide +kernel
theorem d_T_pageFrom_34 : decode b_T_pageFrom 34 = .ok (.getfield 24, 3) := by decide +kernel
theorem d_T_pageFrom_37 : decode b_T_pageFrom 37 = .ok (.iload_n 2, 1) := by decide +kernel
theorem d_T_pageFrom_38 : decode b_T_pageFrom 38 = .ok (.invokevirtual 62, 3) := by decide +kernel
theorem d_T_pageFrom_41 : decode b_T_pageFrom 41 = .ok (.ireturn, 1) := by decide +kernel
theorem d_T_pageFrom_42 : decode b_T_pageFrom 42 = .ok (.iinc 2 (1), 3) := by decide +kernel
theorem d_T_pageFrom_45 : decode b_T_pageFrom 45 = .ok (.goto (-43), 3) := by decide +kernel
theorem d_T_pageFrom_48 : decode b_T_pageFrom 48 = .ok (.aload_n 0, 1) := by decide +kernel
theorem d_T_pageFrom_49 : decode b_T_pageFrom 49 = .ok (.invokevirtual 76, 3) := by decide +kernel
theorem d_T_pageFrom_52 : decode b_T_pageFrom 52 = .ok (.iconst 1, 1) := by decide +kernel
theorem d_T_pageFrom_53 : decode b_T_pageFrom 53 = .ok (.isub, 1) := by decide +kernel
theorem d_T_pageFrom_54 : decode b_T_pageFrom 54 = .ok (.ireturn, 1) := by decide +kernel
theorem d_T_character_0 : decode b_T_character 0 = .ok (.iload_n 1, 1) := by decide +kernel
theorem d_T_character_1 : decode b_T_character 1 = .ok (.ifCond .lt (35), 3) := by decide +kernel
theorem d_T_character_4 : decode b_T_character 4 = .ok (.iload_n 1, 1) := by decide +kernel
theorem d_T_character_5 : decode b_T_character 5 = .ok (.aload_n 0, 1) := by decide +kernel
theorem d_T_character_6 : decode b_T_character 6 = .ok (.invokevirtual 76, 3) := by decide +kernel
theorem d_T_character_9 : decode b_T_character 9 = .ok (.if_icmp .ge (27), 3) := by decide +kernel
theorem d_T_character_12 : decode b_T_character 12 = .ok (.iload_n 2, 1) := by decide +kernel
theorem d_T_character_13 : decode b_T_character 13 = .ok (.ifCond .lt (23), 3) := by decide +kernel
theorem d_T_character_16 : decode b_T_character 16 = .ok (.iload_n 2, 1) := by decide +kernel
theorem d_T_character_17 : decode b_T_character 17 = .ok (.aload_n 0, 1) := by decide +kernel
theorem d_T_character_18 : decode b_T_character 18 = .ok (.getfield 47, 3) := by decide +kernel
theorem d_T_character_21 : decode b_T_character 21 = .ok (.if_icmp .ge (15), 3) := by decide +kernel
theorem d_T_character_24 : decode b_T_character 24 = .ok (.iload_n 3, 1) := by decide +kernel
theorem d_T_character_25 : decode b_T_character 25 = .ok (.ifCond .lt (11), 3) := by decide +kernel
theorem d_T_character_28 : decode b_T_character 28 = .ok (.iload_n 3, 1) := by decide +kernel
theorem d_T_character_29 : decode b_T_character 29 = .ok (.aload_n 0, 1) := by decide +kernel
theorem d_T_character_30 : decode b_T_character 30 = .ok (.getfield 51, 3) := by decide +kernel
theorem d_T_character_33 : decode b_T_character 33 = .ok (.if_icmp .lt (5), 3) := by decide +kernel
theorem d_T_character_36 : decode b_T_character 36 = .ok (.iconst (-1), 1) := by decide +kernel
theorem d_T_character_37 : decode b_T_character 37 = .ok (.ireturn, 1) := by decide +kernel
theorem d_T_character_38 : decode b_T_character 38 = .ok (.iload_n 2, 1) := by decide +kernel
theorem d_T_character_39 : decode b_T_character 39 = .ok (.aload_n 0, 1) := by decide +kernel
theorem d_T_character_40 : decode b_T_character 40 = .ok (.getfield 36, 3) := by decide +kernel
theorem d_T_character_43 : decode b_T_character 43 = .ok (.iload_n 1, 1) := by decide +kernel
theorem d_T_character_44 : decode b_T_character 44 = .ok (.invokevirtual 62, 3) := by decide +kernel
theorem d_T_character_47 : decode b_T_character 47 = .ok (.if_icmp .lt (6), 3) := by decide +kernel
theorem d_T_character_50 : decode b_T_character 50 = .ok (.bipush (32), 2) := by decide +kernel
theorem d_T_character_52 : decode b_T_character 52 = .ok (.ireturn, 1) := by decide +kernel
theorem d_T_character_53 : decode b_T_character 53 = .ok (.aload_n 0, 1) := by decide +kernel
theorem d_T_character_54 : decode b_T_character 54 = .ok (.getfield 33, 3) := by decide +kernel
theorem d_T_character_57 : decode b_T_character 57 = .ok (.iload_n 1, 1) := by decide +kernel
theorem d_T_character_58 : decode b_T_character 58 = .ok (.invokevirtual 62, 3) := by decide +kernel
theorem d_T_character_61 : decode b_T_character 61 = .ok (.iload_n 2, 1) := by decide +kernel
theorem d_T_character_62 : decode b_T_character 62 = .ok (.iadd, 1) := by decide +kernel
theorem d_T_character_63 : decode b_T_character 63 = .ok (.istore 4, 2) := by decide +kernel
theorem d_T_character_65 : decode b_T_character 65 = .ok (.iload_n 3, 1) := by decide +kernel
theorem d_T_character_66 : decode b_T_character 66 = .ok (.aload_n 0, 1) := by decide +kernel
theorem d_T_character_67 : decode b_T_character 67 = .ok (.getfield 21, 3) := by decide +kernel
theorem d_T_character_70 : decode b_T_character 70 = .ok (.iload 4, 2) := by decide +kernel
theorem d_T_character_72 : decode b_T_character 72 = .ok (.invokevirtual 62, 3) := by decide +kernel
theorem d_T_character_75 : decode b_T_character 75 = .ok (.if_icmp .ge (24), 3) := by decide +kernel
theorem d_T_character_78 : decode b_T_character 78 = .ok (.aload_n 0, 1) := by decide +kernel
theorem d_T_character_79 : decode b_T_character 79 = .ok (.getfield 12, 3) := by decide +kernel
theorem d_T_character_82 : decode b_T_character 82 = .ok (.aload_n 0, 1) := by decide +kernel
theorem d_T_character_83 : decode b_T_character 83 = .ok (.getfield 18, 3) := by decide +kernel
theorem d_T_character_86 : decode b_T_character 86 = .ok (.iload 4, 2) := by decide +kernel
theorem d_T_character_88 : decode b_T_character 88 = .ok (.invokevirtual 62, 3) := by decide +kernel
theorem d_T_character_91 : decode b_T_character 91 = .ok (.iload_n 3, 1) := by decide +kernel
theorem d_T_character_92 : decode b_T_character 92 = .ok (.iadd, 1) := by decide +kernel
theorem d_T_character_93 : decode b_T_character 93 = .ok (.invokevirtual 62, 3) := by decide +kernel
theorem d_T_character_96 : decode b_T_character 96 = .ok (.goto (5), 3) := by decide +kernel
theorem d_T_character_99 : decode b_T_character 99 = .ok (.bipush (32), 2) := by decide +kernel
theorem d_T_character_101 : decode b_T_character 101 = .ok (.ireturn, 1) := by decide +kernel
theorem d_L_begin_0 : decode b_L_begin 0 = .ok (.aload_n 3, 1) := by decide +kernel
theorem d_L_begin_1 : decode b_L_begin 1 = .ok (.iconst 0, 1) := by decide +kernel
theorem d_L_begin_2 : decode b_L_begin 2 = .ok (.aload_n 0, 1) := by decide +kernel
theorem d_L_begin_3 : decode b_L_begin 3 = .ok (.iload_n 1, 1) := by decide +kernel
theorem d_L_begin_4 : decode b_L_begin 4 = .ok (.iload_n 2, 1) := by decide +kernel
theorem d_L_begin_5 : decode b_L_begin 5 = .ok (.invokevirtual 7, 3) := by decide +kernel
theorem d_L_begin_8 : decode b_L_begin 8 = .ok (.i2l, 1) := by decide +kernel
theorem d_L_begin_9 : decode b_L_begin 9 = .ok (.lastore, 1) := by decide +kernel
theorem d_L_begin_10 : decode b_L_begin 10 = .ok (.goto (11), 3) := by decide +kernel
theorem d_L_begin_13 : decode b_L_begin 13 = .ok (.astore 4, 2) := by decide +kernel
theorem d_L_begin_15 : decode b_L_begin 15 = .ok (.iconst 1, 1) := by decide +kernel
theorem d_L_begin_16 : decode b_L_begin 16 = .ok (.ireturn, 1) := by decide +kernel
theorem d_L_begin_17 : decode b_L_begin 17 = .ok (.astore 4, 2) := by decide +kernel
theorem d_L_begin_19 : decode b_L_begin 19 = .ok (.iconst 2, 1) := by decide +kernel
theorem d_L_begin_20 : decode b_L_begin 20 = .ok (.ireturn, 1) := by decide +kernel
theorem d_L_begin_21 : decode b_L_begin 21 = .ok (.iconst 0, 1) := by decide +kernel
theorem d_L_begin_22 : decode b_L_begin 22 = .ok (.ireturn, 1) := by decide +kernel
theorem d_L_say_0 : decode b_L_say 0 = .ok (.aload 6, 2) := by decide +kernel
theorem d_L_say_2 : decode b_L_say 2 = .ok (.iconst 0, 1) := by decide +kernel
