theorem d_P_init_0 : decode b_P_init 0 = .ok (.aload_n 0, 1) := by decide +kernel
theorem d_P_init_1 : decode b_P_init 1 = .ok (.invokespecial 3, 3) := by decide +kernel
theorem d_P_init_4 : decode b_P_init 4 = .ok (.aload_n 0, 1) := by decide +kernel
theorem d_P_init_5 : decode b_P_init 5 = .ok (.sipush (300), 3) := by decide +kernel
theorem d_P_init_8 : decode b_P_init 8 = .ok (.anewarray 9, 3) := by decide +kernel
theorem d_P_init_11 : decode b_P_init 11 = .ok (.putfield 11, 3) := by decide +kernel
theorem d_P_init_14 : decode b_P_init 14 = .ok (.aload_n 0, 1) := by decide +kernel
theorem d_P_init_15 : decode b_P_init 15 = .ok (.new 15, 3) := by decide +kernel
theorem d_P_init_18 : decode b_P_init 18 = .ok (.dup, 1) := by decide +kernel
theorem d_P_init_19 : decode b_P_init 19 = .ok (.invokespecial 17, 3) := by decide +kernel
theorem d_P_init_22 : decode b_P_init 22 = .ok (.putfield 18, 3) := by decide +kernel
theorem d_P_init_25 : decode b_P_init 25 = .ok (.aload_n 0, 1) := by decide +kernel
theorem d_P_init_26 : decode b_P_init 26 = .ok (.new 22, 3) := by decide +kernel
theorem d_P_init_29 : decode b_P_init 29 = .ok (.dup, 1) := by decide +kernel
theorem d_P_init_30 : decode b_P_init 30 = .ok (.invokespecial 24, 3) := by decide +kernel
theorem d_P_init_33 : decode b_P_init 33 = .ok (.putfield 25, 3) := by decide +kernel
theorem d_P_init_36 : decode b_P_init 36 = .ok (.aload_n 0, 1) := by decide +kernel
theorem d_P_init_37 : decode b_P_init 37 = .ok (.new 9, 3) := by decide +kernel
theorem d_P_init_40 : decode b_P_init 40 = .ok (.dup, 1) := by decide +kernel
theorem d_P_init_41 : decode b_P_init 41 = .ok (.iconst 0, 1) := by decide +kernel
theorem d_P_init_42 : decode b_P_init 42 = .ok (.iconst (-1), 1) := by decide +kernel
theorem d_P_init_43 : decode b_P_init 43 = .ok (.iconst 0, 1) := by decide +kernel
theorem d_P_init_44 : decode b_P_init 44 = .ok (.aconst_null, 1) := by decide +kernel
theorem d_P_init_45 : decode b_P_init 45 = .ok (.iconst 0, 1) := by decide +kernel
theorem d_P_init_46 : decode b_P_init 46 = .ok (.invokespecial 29, 3) := by decide +kernel
theorem d_P_init_49 : decode b_P_init 49 = .ok (.putfield 32, 3) := by decide +kernel
theorem d_P_init_52 : decode b_P_init 52 = .ok (.aload_n 0, 1) := by decide +kernel
theorem d_P_init_53 : decode b_P_init 53 = .ok (.aload_n 0, 1) := by decide +kernel
theorem d_P_init_54 : decode b_P_init 54 = .ok (.getfield 32, 3) := by decide +kernel
theorem d_P_init_57 : decode b_P_init 57 = .ok (.putfield 36, 3) := by decide +kernel
theorem d_P_init_60 : decode b_P_init 60 = .ok (.aload_n 0, 1) := by decide +kernel
theorem d_P_init_61 : decode b_P_init 61 = .ok (.getfield 11, 3) := by decide +kernel
theorem d_P_init_64 : decode b_P_init 64 = .ok (.iconst 0, 1) := by decide +kernel
theorem d_P_init_65 : decode b_P_init 65 = .ok (.aload_n 0, 1) := by decide +kernel
theorem d_P_init_66 : decode b_P_init 66 = .ok (.getfield 32, 3) := by decide +kernel
theorem d_P_init_69 : decode b_P_init 69 = .ok (.aastore, 1) := by decide +kernel
theorem d_P_init_70 : decode b_P_init 70 = .ok (.aload_n 0, 1) := by decide +kernel
theorem d_P_init_71 : decode b_P_init 71 = .ok (.iconst 1, 1) := by decide +kernel
theorem d_P_init_72 : decode b_P_init 72 = .ok (.putfield 39, 3) := by decide +kernel
theorem d_P_init_75 : decode b_P_init 75 = .ok (.return_, 1) := by decide +kernel
theorem d_P_begin_0 : decode b_P_begin 0 = .ok (.aload_n 0, 1) := by decide +kernel
theorem d_P_begin_1 : decode b_P_begin 1 = .ok (.invokevirtual 43, 3) := by decide +kernel
theorem d_P_begin_4 : decode b_P_begin 4 = .ok (.ifCond .eq (13), 3) := by decide +kernel
theorem d_P_begin_7 : decode b_P_begin 7 = .ok (.new 47, 3) := by decide +kernel
theorem d_P_begin_10 : decode b_P_begin 10 = .ok (.dup, 1) := by decide +kernel
theorem d_P_begin_11 : decode b_P_begin 11 = .ok (.ldc 49, 2) := by decide +kernel
theorem d_P_begin_13 : decode b_P_begin 13 = .ok (.invokespecial 51, 3) := by decide +kernel
theorem d_P_begin_16 : decode b_P_begin 16 = .ok (.athrow, 1) := by decide +kernel
theorem d_P_begin_17 : decode b_P_begin 17 = .ok (.iload_n 1, 1) := by decide +kernel
theorem d_P_begin_18 : decode b_P_begin 18 = .ok (.ifCond .lt (20), 3) := by decide +kernel
theorem d_P_begin_21 : decode b_P_begin 21 = .ok (.iload_n 1, 1) := by decide +kernel
theorem d_P_begin_22 : decode b_P_begin 22 = .ok (.bipush (9), 2) := by decide +kernel
theorem d_P_begin_24 : decode b_P_begin 24 = .ok (.if_icmp .gt (14), 3) := by decide +kernel
theorem d_P_begin_27 : decode b_P_begin 27 = .ok (.aload_n 0, 1) := by decide +kernel
theorem d_P_begin_28 : decode b_P_begin 28 = .ok (.getfield 36, 3) := by decide +kernel
theorem d_P_begin_31 : decode b_P_begin 31 = .ok (.iload_n 1, 1) := by decide +kernel
theorem d_P_begin_32 : decode b_P_begin 32 = .ok (.invokevirtual 54, 3) := by decide +kernel
theorem d_P_begin_35 : decode b_P_begin 35 = .ok (.ifCond .ne (13), 3) := by decide +kernel
theorem d_P_begin_38 : decode b_P_begin 38 = .ok (.new 58, 3) := by decide +kernel
theorem d_P_begin_41 : decode b_P_begin 41 = .ok (.dup, 1) := by decide +kernel
theorem d_P_begin_42 : decode b_P_begin 42 = .ok (.ldc 60, 2) := by decide +kernel
theorem d_P_begin_44 : decode b_P_begin 44 = .ok (.invokespecial 62, 3) := by decide +kernel
theorem d_P_begin_47 : decode b_P_begin 47 = .ok (.athrow, 1) := by decide +kernel
theorem d_P_begin_48 : decode b_P_begin 48 = .ok (.iload_n 1, 1) := by decide +kernel
theorem d_P_begin_49 : decode b_P_begin 49 = .ok (.iload_n 2, 1) := by decide +kernel
theorem d_P_begin_50 : decode b_P_begin 50 = .ok (.invokestatic 63, 3) := by decide +kernel
theorem d_P_begin_53 : decode b_P_begin 53 = .ok (.ifCond .ne (13), 3) := by decide +kernel
theorem d_P_begin_56 : decode b_P_begin 56 = .ok (.new 58, 3) := by decide +kernel
theorem d_P_begin_59 : decode b_P_begin 59 = .ok (.dup, 1) := by decide +kernel
theorem d_P_begin_60 : decode b_P_begin 60 = .ok (.ldc 67, 2) := by decide +kernel
theorem d_P_begin_62 : decode b_P_begin 62 = .ok (.invokespecial 62, 3) := by decide +kernel
theorem d_P_begin_65 : decode b_P_begin 65 = .ok (.athrow, 1) := by decide +kernel
theorem d_P_begin_66 : decode b_P_begin 66 = .ok (.aload_n 0, 1) := by decide +kernel
theorem d_P_begin_67 : decode b_P_begin 67 = .ok (.iload_n 1, 1) := by decide +kernel
theorem d_P_begin_68 : decode b_P_begin 68 = .ok (.iload_n 1, 1) := by decide +kernel
theorem d_P_begin_69 : decode b_P_begin 69 = .ok (.iconst 1, 1) := by decide +kernel
theorem d_P_begin_70 : decode b_P_begin 70 = .ok (.if_icmp .eq (9), 3) := by decide +kernel
theorem d_P_begin_73 : decode b_P_begin 73 = .ok (.iload_n 1, 1) := by decide +kernel
theorem d_P_begin_74 : decode b_P_begin 74 = .ok (.bipush (6), 2) := by decide +kernel
theorem d_P_begin_76 : decode b_P_begin 76 = .ok (.if_icmp .ne (7), 3) := by decide +kernel
theorem d_P_begin_79 : decode b_P_begin 79 = .ok (.iload_n 2, 1) := by decide +kernel
theorem d_P_begin_80 : decode b_P_begin 80 = .ok (.goto (4), 3) := by decide +kernel
theorem d_P_begin_83 : decode b_P_begin 83 = .ok (.iconst 0, 1) := by decide +kernel
theorem d_P_begin_84 : decode b_P_begin 84 = .ok (.invokevirtual 69, 3) := by decide +kernel
theorem d_P_begin_87 : decode b_P_begin 87 = .ok (.astore_n 3, 1) := by decide +kernel
theorem d_P_begin_88 : decode b_P_begin 88 = .ok (.iload_n 1, 1) := by decide +kernel
theorem d_P_begin_89 : decode b_P_begin 89 = .ok (.bipush (9), 2) := by decide +kernel
theorem d_P_begin_91 : decode b_P_begin 91 = .ok (.if_icmp .ne (30), 3) := by decide +kernel
theorem d_P_begin_94 : decode b_P_begin 94 = .ok (.aload_n 0, 1) := by decide +kernel
theorem d_P_begin_95 : decode b_P_begin 95 = .ok (.getfield 18, 3) := by decide +kernel
theorem d_P_begin_98 : decode b_P_begin 98 = .ok (.getfield 73, 3) := by decide +kernel
theorem d_P_begin_101 : decode b_P_begin 101 = .ok (.sipush (256), 3) := by decide +kernel
theorem d_P_begin_104 : decode b_P_begin 104 = .ok (.invokevirtual 77, 3) := by decide +kernel
theorem d_P_begin_107 : decode b_P_begin 107 = .ok (.aload_n 3, 1) := by decide +kernel
theorem d_P_begin_108 : decode b_P_begin 108 = .ok (.aload_n 0, 1) := by decide +kernel
theorem d_P_begin_109 : decode b_P_begin 109 = .ok (.getfield 18, 3) := by decide +kernel
theorem d_P_begin_112 : decode b_P_begin 112 = .ok (.getfield 73, 3) := by decide +kernel
theorem d_P_begin_115 : decode b_P_begin 115 = .ok (.invokevirtual 83, 3) := by decide +kernel
theorem d_P_begin_118 : decode b_P_begin 118 = .ok (.invokevirtual 87, 3) := by decide +kernel
theorem d_P_begin_121 : decode b_P_begin 121 = .ok (.iload_n 1, 1) := by decide +kernel
theorem d_P_begin_122 : decode b_P_begin 122 = .ok (.sipush (-1541), 3) := by decide +kernel
theorem d_P_begin_125 : decode b_P_begin 125 = .ok (.invokestatic 90, 3) := by decide +kernel
theorem d_P_begin_128 : decode b_P_begin 128 = .ok (.ifCond .eq (8), 3) := by decide +kernel
theorem d_P_begin_131 : decode b_P_begin 131 = .ok (.aload_n 0, 1) := by decide +kernel
theorem d_P_begin_132 : decode b_P_begin 132 = .ok (.aload_n 3, 1) := by decide +kernel
theorem d_P_begin_133 : decode b_P_begin 133 = .ok (.putfield 36, 3) := by decide +kernel
theorem d_P_begin_136 : decode b_P_begin 136 = .ok (.aload_n 3, 1) := by decide +kernel
theorem d_P_begin_137 : decode b_P_begin 137 = .ok (.getfield 93, 3) := by decide +kernel
theorem d_P_begin_140 : decode b_P_begin 140 = .ok (.ireturn, 1) := by decide +kernel
theorem d_P_end_0 : decode b_P_end 0 = .ok (.aload_n 0, 1) := by decide +kernel
theorem d_P_end_1 : decode b_P_end 1 = .ok (.getfield 36, 3) := by decide +kernel
theorem d_P_end_4 : decode b_P_end 4 = .ok (.getfield 96, 3) := by decide +kernel
theorem d_P_end_7 : decode b_P_end 7 = .ok (.ifnonnull (5), 3) := by decide +kernel
theorem d_P_end_10 : decode b_P_end 10 = .ok (.iconst (-1), 1) := by decide +kernel
theorem d_P_end_11 : decode b_P_end 11 = .ok (.ireturn, 1) := by decide +kernel
theorem d_P_end_12 : decode b_P_end 12 = .ok (.aload_n 0, 1) := by decide +kernel
theorem d_P_end_13 : decode b_P_end 13 = .ok (.aload_n 0, 1) := by decide +kernel
theorem d_P_end_14 : decode b_P_end 14 = .ok (.getfield 36, 3) := by decide +kernel
theorem d_P_end_17 : decode b_P_end 17 = .ok (.getfield 96, 3) := by decide +kernel
theorem d_P_end_20 : decode b_P_end 20 = .ok (.putfield 36, 3) := by decide +kernel
theorem d_P_end_23 : decode b_P_end 23 = .ok (.aload_n 0, 1) := by decide +kernel
theorem d_P_end_24 : decode b_P_end 24 = .ok (.getfield 36, 3) := by decide +kernel
theorem d_P_end_27 : decode b_P_end 27 = .ok (.getfield 93, 3) := by decide +kernel
theorem d_P_end_30 : decode b_P_end 30 = .ok (.ireturn, 1) := by decide +kernel
theorem d_P_say_0 : decode b_P_say 0 = .ok (.iload 5, 2) := by decide +kernel
theorem d_P_say_2 : decode b_P_say 2 = .ok (.iconst 1, 1) := by decide +kernel
theorem d_P_say_3 : decode b_P_say 3 = .ok (.if_icmp .lt (21), 3) := by decide +kernel
theorem d_P_say_6 : decode b_P_say 6 = .ok (.iload 5, 2) := by decide +kernel
theorem d_P_say_8 : decode b_P_say 8 = .ok (.iconst 4, 1) := by decide +kernel
theorem d_P_say_9 : decode b_P_say 9 = .ok (.if_icmp .gt (15), 3) := by decide +kernel
theorem d_P_say_12 : decode b_P_say 12 = .ok (.aload_n 0, 1) := by decide +kernel
theorem d_P_say_13 : decode b_P_say 13 = .ok (.getfield 36, 3) := by decide +kernel
theorem d_P_say_16 : decode b_P_say 16 = .ok (.bipush (10), 2) := by decide +kernel
theorem d_P_say_18 : decode b_P_say 18 = .ok (.invokevirtual 54, 3) := by decide +kernel
theorem d_P_say_21 : decode b_P_say 21 = .ok (.ifCond .ne (13), 3) := by decide +kernel
theorem d_P_say_24 : decode b_P_say 24 = .ok (.new 58, 3) := by decide +kernel
theorem d_P_say_27 : decode b_P_say 27 = .ok (.dup, 1) := by decide +kernel
theorem d_P_say_28 : decode b_P_say 28 = .ok (.ldc 99, 2) := by decide +kernel
theorem d_P_say_30 : decode b_P_say 30 = .ok (.invokespecial 62, 3) := by decide +kernel
theorem d_P_say_33 : decode b_P_say 33 = .ok (.athrow, 1) := by decide +kernel
theorem d_P_say_34 : decode b_P_say 34 = .ok (.aload_n 0, 1) := by decide +kernel
theorem d_P_say_35 : decode b_P_say 35 = .ok (.getfield 101, 3) := by decide +kernel
theorem d_P_say_38 : decode b_P_say 38 = .ok (.iload 5, 2) := by decide +kernel
theorem d_P_say_40 : decode b_P_say 40 = .ok (.iadd, 1) := by decide +kernel
theorem d_P_say_41 : decode b_P_say 41 = .ok (.sipush (4000), 3) := by decide +kernel
theorem d_P_say_44 : decode b_P_say 44 = .ok (.if_icmp .le (13), 3) := by decide +kernel
theorem d_P_say_47 : decode b_P_say 47 = .ok (.new 47, 3) := by decide +kernel
theorem d_P_say_50 : decode b_P_say 50 = .ok (.dup, 1) := by decide +kernel
theorem d_P_say_51 : decode b_P_say 51 = .ok (.ldc 104, 2) := by decide +kernel
theorem d_P_say_53 : decode b_P_say 53 = .ok (.invokespecial 51, 3) := by decide +kernel
theorem d_P_say_56 : decode b_P_say 56 = .ok (.athrow, 1) := by decide +kernel
theorem d_P_say_57 : decode b_P_say 57 = .ok (.aload_n 0, 1) := by decide +kernel
theorem d_P_say_58 : decode b_P_say 58 = .ok (.getfield 36, 3) := by decide +kernel
theorem d_P_say_61 : decode b_P_say 61 = .ok (.getfield 106, 3) := by decide +kernel
theorem d_P_say_64 : decode b_P_say 64 = .ok (.astore 6, 2) := by decide +kernel
theorem d_P_say_66 : decode b_P_say 66 = .ok (.aload 6, 2) := by decide +kernel
theorem d_P_say_68 : decode b_P_say 68 = .ok (.ifnull (13), 3) := by decide +kernel
theorem d_P_say_71 : decode b_P_say 71 = .ok (.aload 6, 2) := by decide +kernel
theorem d_P_say_73 : decode b_P_say 73 = .ok (.getfield 109, 3) := by decide +kernel
theorem d_P_say_76 : decode b_P_say 76 = .ok (.bipush (10), 2) := by decide +kernel
theorem d_P_say_78 : decode b_P_say 78 = .ok (.if_icmp .eq (29), 3) := by decide +kernel
theorem d_P_say_81 : decode b_P_say 81 = .ok (.aload_n 0, 1) := by decide +kernel
theorem d_P_say_82 : decode b_P_say 82 = .ok (.invokevirtual 43, 3) := by decide +kernel
theorem d_P_say_85 : decode b_P_say 85 = .ok (.ifCond .eq (13), 3) := by decide +kernel
theorem d_P_say_88 : decode b_P_say 88 = .ok (.new 47, 3) := by decide +kernel
theorem d_P_say_91 : decode b_P_say 91 = .ok (.dup, 1) := by decide +kernel
theorem d_P_say_92 : decode b_P_say 92 = .ok (.ldc 49, 2) := by decide +kernel
theorem d_P_say_94 : decode b_P_say 94 = .ok (.invokespecial 51, 3) := by decide +kernel
theorem d_P_say_97 : decode b_P_say 97 = .ok (.athrow, 1) := by decide +kernel
theorem d_P_say_98 : decode b_P_say 98 = .ok (.aload_n 0, 1) := by decide +kernel
theorem d_P_say_99 : decode b_P_say 99 = .ok (.bipush (10), 2) := by decide +kernel
theorem d_P_say_101 : decode b_P_say 101 = .ok (.iconst 0, 1) := by decide +kernel
theorem d_P_say_102 : decode b_P_say 102 = .ok (.invokevirtual 69, 3) := by decide +kernel
theorem d_P_say_105 : decode b_P_say 105 = .ok (.astore 6, 2) := by decide +kernel
theorem d_P_say_107 : decode b_P_say 107 = .ok (.aload_n 0, 1) := by decide +kernel
theorem d_P_say_108 : decode b_P_say 108 = .ok (.iload_n 1, 1) := by decide +kernel
theorem d_P_say_109 : decode b_P_say 109 = .ok (.iload_n 2, 1) := by decide +kernel
theorem d_P_say_110 : decode b_P_say 110 = .ok (.iload_n 3, 1) := by decide +kernel
theorem d_P_say_111 : decode b_P_say 111 = .ok (.iload 4, 2) := by decide +kernel
theorem d_P_say_113 : decode b_P_say 113 = .ok (.iload 5, 2) := by decide +kernel
theorem d_P_say_115 : decode b_P_say 115 = .ok (.invokevirtual 112, 3) := by decide +kernel
theorem d_P_say_118 : decode b_P_say 118 = .ok (.aload 6, 2) := by decide +kernel
theorem d_P_say_120 : decode b_P_say 120 = .ok (.dup, 1) := by decide +kernel
theorem d_P_say_121 : decode b_P_say 121 = .ok (.getfield 116, 3) := by decide +kernel
theorem d_P_say_124 : decode b_P_say 124 = .ok (.iload 5, 2) := by decide +kernel
theorem d_P_say_126 : decode b_P_say 126 = .ok (.iadd, 1) := by decide +kernel
theorem d_P_say_127 : decode b_P_say 127 = .ok (.putfield 116, 3) := by decide +kernel
theorem d_P_say_130 : decode b_P_say 130 = .ok (.aload 6, 2) := by decide +kernel
theorem d_P_say_132 : decode b_P_say 132 = .ok (.aload_n 0, 1) := by decide +kernel
theorem d_P_say_133 : decode b_P_say 133 = .ok (.getfield 18, 3) := by decide +kernel
theorem d_P_say_136 : decode b_P_say 136 = .ok (.getfield 73, 3) := by decide +kernel
theorem d_P_say_139 : decode b_P_say 139 = .ok (.invokevirtual 83, 3) := by decide +kernel
theorem d_P_say_142 : decode b_P_say 142 = .ok (.invokevirtual 87, 3) := by decide +kernel
theorem d_P_say_145 : decode b_P_say 145 = .ok (.aload 6, 2) := by decide +kernel
theorem d_P_say_147 : decode b_P_say 147 = .ok (.getfield 93, 3) := by decide +kernel
theorem d_P_say_150 : decode b_P_say 150 = .ok (.ireturn, 1) := by decide +kernel
theorem d_P_clear_0 : decode b_P_clear 0 = .ok (.aload_n 0, 1) := by decide +kernel
theorem d_P_clear_1 : decode b_P_clear 1 = .ok (.getfield 18, 3) := by decide +kernel
theorem d_P_clear_4 : decode b_P_clear 4 = .ok (.getfield 73, 3) := by decide +kernel
theorem d_P_clear_7 : decode b_P_clear 7 = .ok (.iconst 0, 1) := by decide +kernel
theorem d_P_clear_8 : decode b_P_clear 8 = .ok (.invokevirtual 119, 3) := by decide +kernel
theorem d_P_clear_11 : decode b_P_clear 11 = .ok (.aload_n 0, 1) := by decide +kernel
theorem d_P_clear_12 : decode b_P_clear 12 = .ok (.iconst 0, 1) := by decide +kernel
theorem d_P_clear_13 : decode b_P_clear 13 = .ok (.putfield 101, 3) := by decide +kernel
theorem d_P_clear_16 : decode b_P_clear 16 = .ok (.aload_n 0, 1) := by decide +kernel
theorem d_P_clear_17 : decode b_P_clear 17 = .ok (.new 9, 3) := by decide +kernel
theorem d_P_clear_20 : decode b_P_clear 20 = .ok (.dup, 1) := by decide +kernel
theorem d_P_clear_21 : decode b_P_clear 21 = .ok (.iconst 0, 1) := by decide +kernel
theorem d_P_clear_22 : decode b_P_clear 22 = .ok (.iconst (-1), 1) := by decide +kernel
theorem d_P_clear_23 : decode b_P_clear 23 = .ok (.iconst 0, 1) := by decide +kernel
theorem d_P_clear_24 : decode b_P_clear 24 = .ok (.aconst_null, 1) := by decide +kernel
theorem d_P_clear_25 : decode b_P_clear 25 = .ok (.iconst 0, 1) := by decide +kernel
theorem d_P_clear_26 : decode b_P_clear 26 = .ok (.invokespecial 29, 3) := by decide +kernel
theorem d_P_clear_29 : decode b_P_clear 29 = .ok (.putfield 32, 3) := by decide +kernel
theorem d_P_clear_32 : decode b_P_clear 32 = .ok (.aload_n 0, 1) := by decide +kernel
theorem d_P_clear_33 : decode b_P_clear 33 = .ok (.aload_n 0, 1) := by decide +kernel
theorem d_P_clear_34 : decode b_P_clear 34 = .ok (.getfield 32, 3) := by decide +kernel
theorem d_P_clear_37 : decode b_P_clear 37 = .ok (.putfield 36, 3) := by decide +kernel
theorem d_P_clear_40 : decode b_P_clear 40 = .ok (.aload_n 0, 1) := by decide +kernel
theorem d_P_clear_41 : decode b_P_clear 41 = .ok (.getfield 11, 3) := by decide +kernel
theorem d_P_clear_44 : decode b_P_clear 44 = .ok (.iconst 0, 1) := by decide +kernel
theorem d_P_clear_45 : decode b_P_clear 45 = .ok (.aload_n 0, 1) := by decide +kernel
theorem d_P_clear_46 : decode b_P_clear 46 = .ok (.getfield 32, 3) := by decide +kernel
theorem d_P_clear_49 : decode b_P_clear 49 = .ok (.aastore, 1) := by decide +kernel
theorem d_P_clear_50 : decode b_P_clear 50 = .ok (.aload_n 0, 1) := by decide +kernel
theorem d_P_clear_51 : decode b_P_clear 51 = .ok (.iconst 1, 1) := by decide +kernel
theorem d_P_clear_52 : decode b_P_clear 52 = .ok (.putfield 39, 3) := by decide +kernel
theorem d_P_clear_55 : decode b_P_clear 55 = .ok (.aload_n 0, 1) := by decide +kernel
theorem d_P_clear_56 : decode b_P_clear 56 = .ok (.iconst 0, 1) := by decide +kernel
theorem d_P_clear_57 : decode b_P_clear 57 = .ok (.putfield 122, 3) := by decide +kernel
theorem d_P_clear_60 : decode b_P_clear 60 = .ok (.return_, 1) := by decide +kernel
theorem d_P_pages_0 : decode b_P_pages 0 = .ok (.iload_n 1, 1) := by decide +kernel
theorem d_P_pages_1 : decode b_P_pages 1 = .ok (.iconst 5, 1) := by decide +kernel
theorem d_P_pages_2 : decode b_P_pages 2 = .ok (.if_icmp .lt (21), 3) := by decide +kernel
theorem d_P_pages_5 : decode b_P_pages 5 = .ok (.iload_n 1, 1) := by decide +kernel
theorem d_P_pages_6 : decode b_P_pages 6 = .ok (.bipush (40), 2) := by decide +kernel
theorem d_P_pages_8 : decode b_P_pages 8 = .ok (.if_icmp .gt (15), 3) := by decide +kernel
theorem d_P_pages_11 : decode b_P_pages 11 = .ok (.iload_n 2, 1) := by decide +kernel
theorem d_P_pages_12 : decode b_P_pages 12 = .ok (.bipush (8), 2) := by decide +kernel
theorem d_P_pages_14 : decode b_P_pages 14 = .ok (.if_icmp .lt (9), 3) := by decide +kernel
theorem d_P_pages_17 : decode b_P_pages 17 = .ok (.iload_n 2, 1) := by decide +kernel
theorem d_P_pages_18 : decode b_P_pages 18 = .ok (.bipush (60), 2) := by decide +kernel
theorem d_P_pages_20 : decode b_P_pages 20 = .ok (.if_icmp .le (13), 3) := by decide +kernel
theorem d_P_pages_23 : decode b_P_pages 23 = .ok (.new 58, 3) := by decide +kernel
theorem d_P_pages_26 : decode b_P_pages 26 = .ok (.dup, 1) := by decide +kernel
theorem d_P_pages_27 : decode b_P_pages 27 = .ok (.ldc 126, 2) := by decide +kernel
theorem d_P_pages_29 : decode b_P_pages 29 = .ok (.invokespecial 62, 3) := by decide +kernel
theorem d_P_pages_32 : decode b_P_pages 32 = .ok (.athrow, 1) := by decide +kernel
theorem d_P_pages_33 : decode b_P_pages 33 = .ok (.aload_n 0, 1) := by decide +kernel
theorem d_P_pages_34 : decode b_P_pages 34 = .ok (.getfield 18, 3) := by decide +kernel
theorem d_P_pages_37 : decode b_P_pages 37 = .ok (.getfield 128, 3) := by decide +kernel
theorem d_P_pages_40 : decode b_P_pages 40 = .ok (.astore_n 3, 1) := by decide +kernel
theorem d_P_pages_41 : decode b_P_pages 41 = .ok (.aload_n 3, 1) := by decide +kernel
theorem d_P_pages_42 : decode b_P_pages 42 = .ok (.iload_n 1, 1) := by decide +kernel
theorem d_P_pages_43 : decode b_P_pages 43 = .ok (.iload_n 2, 1) := by decide +kernel
theorem d_P_pages_44 : decode b_P_pages 44 = .ok (.invokevirtual 131, 3) := by decide +kernel
theorem d_P_pages_47 : decode b_P_pages 47 = .ok (.aload_n 0, 1) := by decide +kernel
theorem d_P_pages_48 : decode b_P_pages 48 = .ok (.getfield 18, 3) := by decide +kernel
theorem d_P_pages_51 : decode b_P_pages 51 = .ok (.aload_n 0, 1) := by decide +kernel
theorem d_P_pages_52 : decode b_P_pages 52 = .ok (.getfield 32, 3) := by decide +kernel
theorem d_P_pages_55 : decode b_P_pages 55 = .ok (.iload_n 2, 1) := by decide +kernel
theorem d_P_pages_56 : decode b_P_pages 56 = .ok (.invokevirtual 135, 3) := by decide +kernel
theorem d_P_pages_59 : decode b_P_pages 59 = .ok (.aload_n 3, 1) := by decide +kernel
theorem d_P_pages_60 : decode b_P_pages 60 = .ok (.getfield 139, 3) := by decide +kernel
theorem d_P_pages_63 : decode b_P_pages 63 = .ok (.ifCond .eq (13), 3) := by decide +kernel
theorem d_P_pages_66 : decode b_P_pages 66 = .ok (.new 47, 3) := by decide +kernel
theorem d_P_pages_69 : decode b_P_pages 69 = .ok (.dup, 1) := by decide +kernel
theorem d_P_pages_70 : decode b_P_pages 70 = .ok (.ldc 142, 2) := by decide +kernel
theorem d_P_pages_72 : decode b_P_pages 72 = .ok (.invokespecial 51, 3) := by decide +kernel
theorem d_P_pages_75 : decode b_P_pages 75 = .ok (.athrow, 1) := by decide +kernel
theorem d_P_pages_76 : decode b_P_pages 76 = .ok (.aload_n 3, 1) := by decide +kernel
theorem d_P_pages_77 : decode b_P_pages 77 = .ok (.invokevirtual 144, 3) := by decide +kernel
theorem d_P_pages_80 : decode b_P_pages 80 = .ok (.aload_n 0, 1) := by decide +kernel
theorem d_P_pages_81 : decode b_P_pages 81 = .ok (.getfield 18, 3) := by decide +kernel
theorem d_P_pages_84 : decode b_P_pages 84 = .ok (.aload_n 0, 1) := by decide +kernel
theorem d_P_pages_85 : decode b_P_pages 85 = .ok (.getfield 25, 3) := by decide +kernel
theorem d_P_pages_88 : decode b_P_pages 88 = .ok (.putfield 128, 3) := by decide +kernel
theorem d_P_pages_91 : decode b_P_pages 91 = .ok (.aload_n 0, 1) := by decide +kernel
theorem d_P_pages_92 : decode b_P_pages 92 = .ok (.aload_n 3, 1) := by decide +kernel
theorem d_P_pages_93 : decode b_P_pages 93 = .ok (.putfield 25, 3) := by decide +kernel
theorem d_P_pages_96 : decode b_P_pages 96 = .ok (.aload_n 0, 1) := by decide +kernel
theorem d_P_pages_97 : decode b_P_pages 97 = .ok (.iconst 1, 1) := by decide +kernel
theorem d_P_pages_98 : decode b_P_pages 98 = .ok (.putfield 122, 3) := by decide +kernel
theorem d_P_pages_101 : decode b_P_pages 101 = .ok (.aload_n 0, 1) := by decide +kernel
theorem d_P_pages_102 : decode b_P_pages 102 = .ok (.invokevirtual 147, 3) := by decide +kernel
theorem d_P_pages_105 : decode b_P_pages 105 = .ok (.aload_n 0, 1) := by decide +kernel
theorem d_P_pages_106 : decode b_P_pages 106 = .ok (.getfield 25, 3) := by decide +kernel
theorem d_P_pages_109 : decode b_P_pages 109 = .ok (.invokevirtual 150, 3) := by decide +kernel
theorem d_P_pages_112 : decode b_P_pages 112 = .ok (.ireturn, 1) := by decide +kernel
theorem d_P_cell_0 : decode b_P_cell 0 = .ok (.aload_n 0, 1) := by decide +kernel
theorem d_P_cell_1 : decode b_P_cell 1 = .ok (.getfield 122, 3) := by decide +kernel
theorem d_P_cell_4 : decode b_P_cell 4 = .ok (.ifCond .eq (16), 3) := by decide +kernel
theorem d_P_cell_7 : decode b_P_cell 7 = .ok (.aload_n 0, 1) := by decide +kernel
theorem d_P_cell_8 : decode b_P_cell 8 = .ok (.getfield 25, 3) := by decide +kernel
theorem d_P_cell_11 : decode b_P_cell 11 = .ok (.iload_n 1, 1) := by decide +kernel
theorem d_P_cell_12 : decode b_P_cell 12 = .ok (.iload_n 2, 1) := by decide +kernel
theorem d_P_cell_13 : decode b_P_cell 13 = .ok (.iload_n 3, 1) := by decide +kernel
theorem d_P_cell_14 : decode b_P_cell 14 = .ok (.invokevirtual 153, 3) := by decide +kernel
theorem d_P_cell_17 : decode b_P_cell 17 = .ok (.goto (4), 3) := by decide +kernel
theorem d_P_cell_20 : decode b_P_cell 20 = .ok (.iconst (-1), 1) := by decide +kernel
theorem d_P_cell_21 : decode b_P_cell 21 = .ok (.ireturn, 1) := by decide +kernel
theorem d_P_page_0 : decode b_P_page 0 = .ok (.aload_n 0, 1) := by decide +kernel
theorem d_P_page_1 : decode b_P_page 1 = .ok (.getfield 122, 3) := by decide +kernel
theorem d_P_page_4 : decode b_P_page 4 = .ok (.ifCond .eq (18), 3) := by decide +kernel
theorem d_P_page_7 : decode b_P_page 7 = .ok (.iload_n 1, 1) := by decide +kernel
theorem d_P_page_8 : decode b_P_page 8 = .ok (.ifCond .lt (14), 3) := by decide +kernel
theorem d_P_page_11 : decode b_P_page 11 = .ok (.iload_n 1, 1) := by decide +kernel
theorem d_P_page_12 : decode b_P_page 12 = .ok (.aload_n 0, 1) := by decide +kernel
theorem d_P_page_13 : decode b_P_page 13 = .ok (.getfield 25, 3) := by decide +kernel
theorem d_P_page_16 : decode b_P_page 16 = .ok (.invokevirtual 150, 3) := by decide +kernel
theorem d_P_page_19 : decode b_P_page 19 = .ok (.if_icmp .lt (5), 3) := by decide +kernel
theorem d_P_page_22 : decode b_P_page 22 = .ok (.iconst (-1), 1) := by decide +kernel
theorem d_P_page_23 : decode b_P_page 23 = .ok (.ireturn, 1) := by decide +kernel
theorem d_P_page_24 : decode b_P_page 24 = .ok (.iload_n 2, 1) := by decide +kernel
theorem d_P_page_25 : decode b_P_page 25 = .ok (.lookupswitch (51) #[(0, 27), (1, 39)], 27) := by decide +kernel
theorem d_P_page_52 : decode b_P_page 52 = .ok (.aload_n 0, 1) := by decide +kernel
theorem d_P_page_53 : decode b_P_page 53 = .ok (.getfield 25, 3) := by decide +kernel
theorem d_P_page_56 : decode b_P_page 56 = .ok (.getfield 157, 3) := by decide +kernel
theorem d_P_page_59 : decode b_P_page 59 = .ok (.iload_n 1, 1) := by decide +kernel
theorem d_P_page_60 : decode b_P_page 60 = .ok (.invokevirtual 160, 3) := by decide +kernel
theorem d_P_page_63 : decode b_P_page 63 = .ok (.ireturn, 1) := by decide +kernel
theorem d_P_page_64 : decode b_P_page 64 = .ok (.aload_n 0, 1) := by decide +kernel
theorem d_P_page_65 : decode b_P_page 65 = .ok (.getfield 25, 3) := by decide +kernel
theorem d_P_page_68 : decode b_P_page 68 = .ok (.getfield 164, 3) := by decide +kernel
theorem d_P_page_71 : decode b_P_page 71 = .ok (.iload_n 1, 1) := by decide +kernel
theorem d_P_page_72 : decode b_P_page 72 = .ok (.invokevirtual 160, 3) := by decide +kernel
theorem d_P_page_75 : decode b_P_page 75 = .ok (.ireturn, 1) := by decide +kernel
theorem d_P_page_76 : decode b_P_page 76 = .ok (.iconst (-1), 1) := by decide +kernel
theorem d_P_page_77 : decode b_P_page 77 = .ok (.ireturn, 1) := by decide +kernel
theorem d_P_line_0 : decode b_P_line 0 = .ok (.aload_n 0, 1) := by decide +kernel
theorem d_P_line_1 : decode b_P_line 1 = .ok (.getfield 122, 3) := by decide +kernel
theorem d_P_line_4 : decode b_P_line 4 = .ok (.ifCond .eq (18), 3) := by decide +kernel
theorem d_P_line_7 : decode b_P_line 7 = .ok (.iload_n 1, 1) := by decide +kernel
theorem d_P_line_8 : decode b_P_line 8 = .ok (.ifCond .lt (14), 3) := by decide +kernel
theorem d_P_line_11 : decode b_P_line 11 = .ok (.iload_n 1, 1) := by decide +kernel
theorem d_P_line_12 : decode b_P_line 12 = .ok (.aload_n 0, 1) := by decide +kernel
theorem d_P_line_13 : decode b_P_line 13 = .ok (.getfield 25, 3) := by decide +kernel
theorem d_P_line_16 : decode b_P_line 16 = .ok (.invokevirtual 167, 3) := by decide +kernel
theorem d_P_line_19 : decode b_P_line 19 = .ok (.if_icmp .lt (5), 3) := by decide +kernel
theorem d_P_line_22 : decode b_P_line 22 = .ok (.iconst (-1), 1) := by decide +kernel
theorem d_P_line_23 : decode b_P_line 23 = .ok (.ireturn, 1) := by decide +kernel
theorem d_P_line_24 : decode b_P_line 24 = .ok (.iload_n 2, 1) := by decide +kernel
theorem d_P_line_25 : decode b_P_line 25 = .ok (.tableswitch (71) (0) (2) #[27, 39, 51], 27) := by decide +kernel
theorem d_P_line_52 : decode b_P_line 52 = .ok (.aload_n 0, 1) := by decide +kernel
theorem d_P_line_53 : decode b_P_line 53 = .ok (.getfield 25, 3) := by decide +kernel
theorem d_P_line_56 : decode b_P_line 56 = .ok (.getfield 170, 3) := by decide +kernel
theorem d_P_line_59 : decode b_P_line 59 = .ok (.iload_n 1, 1) := by decide +kernel
theorem d_P_line_60 : decode b_P_line 60 = .ok (.invokevirtual 160, 3) := by decide +kernel
theorem d_P_line_63 : decode b_P_line 63 = .ok (.ireturn, 1) := by decide +kernel
theorem d_P_line_64 : decode b_P_line 64 = .ok (.aload_n 0, 1) := by decide +kernel
theorem d_P_line_65 : decode b_P_line 65 = .ok (.getfield 25, 3) := by decide +kernel
theorem d_P_line_68 : decode b_P_line 68 = .ok (.getfield 173, 3) := by decide +kernel
theorem d_P_line_71 : decode b_P_line 71 = .ok (.iload_n 1, 1) := by decide +kernel
theorem d_P_line_72 : decode b_P_line 72 = .ok (.invokevirtual 160, 3) := by decide +kernel
theorem d_P_line_75 : decode b_P_line 75 = .ok (.ireturn, 1) := by decide +kernel
theorem d_P_line_76 : decode b_P_line 76 = .ok (.aload_n 0, 1) := by decide +kernel
theorem d_P_line_77 : decode b_P_line 77 = .ok (.getfield 25, 3) := by decide +kernel
theorem d_P_line_80 : decode b_P_line 80 = .ok (.getfield 176, 3) := by decide +kernel
theorem d_P_line_83 : decode b_P_line 83 = .ok (.iload_n 1, 1) := by decide +kernel
theorem d_P_line_84 : decode b_P_line 84 = .ok (.invokevirtual 160, 3) := by decide +kernel
theorem d_P_line_87 : decode b_P_line 87 = .ok (.ifCond .le (7), 3) := by decide +kernel
theorem d_P_line_90 : decode b_P_line 90 = .ok (.iconst 1, 1) := by decide +kernel
theorem d_P_line_91 : decode b_P_line 91 = .ok (.goto (4), 3) := by decide +kernel
theorem d_P_line_94 : decode b_P_line 94 = .ok (.iconst 0, 1) := by decide +kernel
theorem d_P_line_95 : decode b_P_line 95 = .ok (.ireturn, 1) := by decide +kernel
theorem d_P_line_96 : decode b_P_line 96 = .ok (.iconst (-1), 1) := by decide +kernel
theorem d_P_line_97 : decode b_P_line 97 = .ok (.ireturn, 1) := by decide +kernel
theorem d_P_find_0 : decode b_P_find 0 = .ok (.aload_n 0, 1) := by decide +kernel
theorem d_P_find_1 : decode b_P_find 1 = .ok (.iload_n 1, 1) := by decide +kernel
theorem d_P_find_2 : decode b_P_find 2 = .ok (.invokevirtual 179, 3) := by decide +kernel
theorem d_P_find_5 : decode b_P_find 5 = .ok (.astore_n 2, 1) := by decide +kernel
theorem d_P_find_6 : decode b_P_find 6 = .ok (.aload_n 2, 1) := by decide +kernel
theorem d_P_find_7 : decode b_P_find 7 = .ok (.ifnull (10), 3) := by decide +kernel
theorem d_P_find_10 : decode b_P_find 10 = .ok (.aload_n 0, 1) := by decide +kernel
theorem d_P_find_11 : decode b_P_find 11 = .ok (.getfield 122, 3) := by decide +kernel
theorem d_P_find_14 : decode b_P_find 14 = .ok (.ifCond .ne (7), 3) := by decide +kernel
theorem d_P_find_17 : decode b_P_find 17 = .ok (.iconst (-1), 1) := by decide +kernel
theorem d_P_find_18 : decode b_P_find 18 = .ok (.goto (7), 3) := by decide +kernel
theorem d_P_find_21 : decode b_P_find 21 = .ok (.aload_n 2, 1) := by decide +kernel
theorem d_P_find_22 : decode b_P_find 22 = .ok (.getfield 183, 3) := by decide +kernel
theorem d_P_find_25 : decode b_P_find 25 = .ok (.ireturn, 1) := by decide +kernel
theorem d_P_node_0 : decode b_P_node 0 = .ok (.aload_n 0, 1) := by decide +kernel
theorem d_P_node_1 : decode b_P_node 1 = .ok (.iload_n 1, 1) := by decide +kernel
theorem d_P_node_2 : decode b_P_node 2 = .ok (.invokevirtual 179, 3) := by decide +kernel
theorem d_P_node_5 : decode b_P_node 5 = .ok (.astore_n 3, 1) := by decide +kernel
theorem d_P_node_6 : decode b_P_node 6 = .ok (.aload_n 3, 1) := by decide +kernel
theorem d_P_node_7 : decode b_P_node 7 = .ok (.ifnonnull (5), 3) := by decide +kernel
theorem d_P_node_10 : decode b_P_node 10 = .ok (.iconst (-1), 1) := by decide +kernel
theorem d_P_node_11 : decode b_P_node 11 = .ok (.ireturn, 1) := by decide +kernel
theorem d_P_node_12 : decode b_P_node 12 = .ok (.iload_n 2, 1) := by decide +kernel
theorem d_P_node_13 : decode b_P_node 13 = .ok (.tableswitch (56) (0) (2) #[27, 32, 51], 27) := by decide +kernel
theorem d_P_node_40 : decode b_P_node 40 = .ok (.aload_n 3, 1) := by decide +kernel
theorem d_P_node_41 : decode b_P_node 41 = .ok (.getfield 109, 3) := by decide +kernel
theorem d_P_node_44 : decode b_P_node 44 = .ok (.ireturn, 1) := by decide +kernel
theorem d_P_node_45 : decode b_P_node 45 = .ok (.aload_n 3, 1) := by decide +kernel
theorem d_P_node_46 : decode b_P_node 46 = .ok (.getfield 96, 3) := by decide +kernel
theorem d_P_node_49 : decode b_P_node 49 = .ok (.ifnonnull (7), 3) := by decide +kernel
theorem d_P_node_52 : decode b_P_node 52 = .ok (.iconst (-1), 1) := by decide +kernel
theorem d_P_node_53 : decode b_P_node 53 = .ok (.goto (10), 3) := by decide +kernel
theorem d_P_node_56 : decode b_P_node 56 = .ok (.aload_n 3, 1) := by decide +kernel
