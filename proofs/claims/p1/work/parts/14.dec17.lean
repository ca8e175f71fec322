theorem d_M_paginate_193 : decode b_M_paginate 193 = .ok (.iload_n 1, 1) := by decide +kernel
theorem d_M_paginate_194 : decode b_M_paginate 194 = .ok (.iload_n 2, 1) := by decide +kernel
theorem d_M_paginate_195 : decode b_M_paginate 195 = .ok (.ifCond .le (7), 3) := by decide +kernel
theorem d_M_paginate_198 : decode b_M_paginate 198 = .ok (.iconst 1, 1) := by decide +kernel
theorem d_M_paginate_199 : decode b_M_paginate 199 = .ok (.goto (4), 3) := by decide +kernel
theorem d_M_paginate_202 : decode b_M_paginate 202 = .ok (.iconst 0, 1) := by decide +kernel
theorem d_M_paginate_203 : decode b_M_paginate 203 = .ok (.iadd, 1) := by decide +kernel
theorem d_M_paginate_204 : decode b_M_paginate 204 = .ok (.goto (4), 3) := by decide +kernel
theorem d_M_paginate_207 : decode b_M_paginate 207 = .ok (.iconst 1, 1) := by decide +kernel
theorem d_M_paginate_208 : decode b_M_paginate 208 = .ok (.ireturn, 1) := by decide +kernel
theorem d_L_begin_0 : decode b_L_begin 0 = .ok (.aload_n 3, 1) := by decide +kernel
theorem d_L_begin_1 : decode b_L_begin 1 = .ok (.iconst 0, 1) := by decide +kernel
theorem d_L_begin_2 : decode b_L_begin 2 = .ok (.aload_n 0, 1) := by decide +kernel
theorem d_L_begin_3 : decode b_L_begin 3 = .ok (.iload_n 1, 1) := by decide +kernel
theorem d_L_begin_4 : decode b_L_begin 4 = .ok (.iload_n 2, 1) := by decide +kernel
theorem d_L_begin_5 : decode b_L_begin 5 = .ok (.invokevirtual 7, 3) := by decide +kernel
theorem d_L_begin_8 : decode b_L_begin 8 = .ok (.i2l, 1) := by decide +kernel
theorem d_L_begin_9 : decode b_L_begin 9 = .ok (.lastore, 1) := by decide +kernel
theorem d_L_begin_10 : decode b_L_begin 10 = .ok (.goto (11), 3) := by decide +kernel
theorem d_L_begin_13 : decode b_L_begin 13 = .ok (.astore 4, 2) := by decide +kernel
theorem d_L_begin_15 : decode b_L_begin 15 = .ok (.iconst 1, 1) := by decide +kernel
theorem d_L_begin_16 : decode b_L_begin 16 = .ok (.ireturn, 1) := by decide +kernel
theorem d_L_begin_17 : decode b_L_begin 17 = .ok (.astore 4, 2) := by decide +kernel
theorem d_L_begin_19 : decode b_L_begin 19 = .ok (.iconst 2, 1) := by decide +kernel
theorem d_L_begin_20 : decode b_L_begin 20 = .ok (.ireturn, 1) := by decide +kernel
theorem d_L_begin_21 : decode b_L_begin 21 = .ok (.iconst 0, 1) := by decide +kernel
theorem d_L_begin_22 : decode b_L_begin 22 = .ok (.ireturn, 1) := by decide +kernel
theorem d_L_say_0 : decode b_L_say 0 = .ok (.aload 6, 2) := by decide +kernel
theorem d_L_say_2 : decode b_L_say 2 = .ok (.iconst 0, 1) := by decide +kernel
theorem d_L_say_3 : decode b_L_say 3 = .ok (.aload_n 0, 1) := by decide +kernel
theorem d_L_say_4 : decode b_L_say 4 = .ok (.iload_n 1, 1) := by decide +kernel
theorem d_L_say_5 : decode b_L_say 5 = .ok (.iload_n 2, 1) := by decide +kernel
theorem d_L_say_6 : decode b_L_say 6 = .ok (.iload_n 3, 1) := by decide +kernel
theorem d_L_say_7 : decode b_L_say 7 = .ok (.iload 4, 2) := by decide +kernel
theorem d_L_say_9 : decode b_L_say 9 = .ok (.iload 5, 2) := by decide +kernel
theorem d_L_say_11 : decode b_L_say 11 = .ok (.invokevirtual 17, 3) := by decide +kernel
theorem d_L_say_14 : decode b_L_say 14 = .ok (.i2l, 1) := by decide +kernel
theorem d_L_say_15 : decode b_L_say 15 = .ok (.lastore, 1) := by decide +kernel
theorem d_L_say_16 : decode b_L_say 16 = .ok (.goto (11), 3) := by decide +kernel
theorem d_L_say_19 : decode b_L_say 19 = .ok (.astore 7, 2) := by decide +kernel
theorem d_L_say_21 : decode b_L_say 21 = .ok (.iconst 1, 1) := by decide +kernel
theorem d_L_say_22 : decode b_L_say 22 = .ok (.ireturn, 1) := by decide +kernel
theorem d_L_say_23 : decode b_L_say 23 = .ok (.astore 7, 2) := by decide +kernel
theorem d_L_say_25 : decode b_L_say 25 = .ok (.iconst 2, 1) := by decide +kernel
theorem d_L_say_26 : decode b_L_say 26 = .ok (.ireturn, 1) := by decide +kernel
theorem d_L_say_27 : decode b_L_say 27 = .ok (.iconst 0, 1) := by decide +kernel
theorem d_L_say_28 : decode b_L_say 28 = .ok (.ireturn, 1) := by decide +kernel
theorem d_L_pages_0 : decode b_L_pages 0 = .ok (.aload_n 3, 1) := by decide +kernel
theorem d_L_pages_1 : decode b_L_pages 1 = .ok (.iconst 0, 1) := by decide +kernel
theorem d_L_pages_2 : decode b_L_pages 2 = .ok (.aload_n 0, 1) := by decide +kernel
theorem d_L_pages_3 : decode b_L_pages 3 = .ok (.iload_n 1, 1) := by decide +kernel
theorem d_L_pages_4 : decode b_L_pages 4 = .ok (.iload_n 2, 1) := by decide +kernel
theorem d_L_pages_5 : decode b_L_pages 5 = .ok (.invokevirtual 21, 3) := by decide +kernel
theorem d_L_pages_8 : decode b_L_pages 8 = .ok (.i2l, 1) := by decide +kernel
theorem d_L_pages_9 : decode b_L_pages 9 = .ok (.lastore, 1) := by decide +kernel
theorem d_L_pages_10 : decode b_L_pages 10 = .ok (.goto (11), 3) := by decide +kernel
theorem d_L_pages_13 : decode b_L_pages 13 = .ok (.astore 4, 2) := by decide +kernel
theorem d_L_pages_15 : decode b_L_pages 15 = .ok (.iconst 1, 1) := by decide +kernel
theorem d_L_pages_16 : decode b_L_pages 16 = .ok (.ireturn, 1) := by decide +kernel
theorem d_L_pages_17 : decode b_L_pages 17 = .ok (.astore 4, 2) := by decide +kernel
theorem d_L_pages_19 : decode b_L_pages 19 = .ok (.iconst 2, 1) := by decide +kernel
theorem d_L_pages_20 : decode b_L_pages 20 = .ok (.ireturn, 1) := by decide +kernel
theorem d_L_pages_21 : decode b_L_pages 21 = .ok (.iconst 0, 1) := by decide +kernel
theorem d_L_pages_22 : decode b_L_pages 22 = .ok (.ireturn, 1) := by decide +kernel
theorem d_P_say_0 : decode b_P_say 0 = .ok (.iload 5, 2) := by decide +kernel
theorem d_P_say_2 : decode b_P_say 2 = .ok (.iconst 1, 1) := by decide +kernel
theorem d_P_say_3 : decode b_P_say 3 = .ok (.if_icmp .lt (21), 3) := by decide +kernel
theorem d_P_say_6 : decode b_P_say 6 = .ok (.iload 5, 2) := by decide +kernel
theorem d_P_say_8 : decode b_P_say 8 = .ok (.iconst 4, 1) := by decide +kernel
theorem d_P_say_9 : decode b_P_say 9 = .ok (.if_icmp .gt (15), 3) := by decide +kernel
theorem d_P_say_12 : decode b_P_say 12 = .ok (.aload_n 0, 1) := by decide +kernel
theorem d_P_say_13 : decode b_P_say 13 = .ok (.getfield 36, 3) := by decide +kernel
theorem d_P_say_16 : decode b_P_say 16 = .ok (.bipush (10), 2) := by decide +kernel
theorem d_P_say_18 : decode b_P_say 18 = .ok (.invokevirtual 54, 3) := by decide +kernel
theorem d_P_say_21 : decode b_P_say 21 = .ok (.ifCond .ne (13), 3) := by decide +kernel
theorem d_P_say_24 : decode b_P_say 24 = .ok (.new 58, 3) := by decide +kernel
theorem d_P_say_27 : decode b_P_say 27 = .ok (.dup, 1) := by decide +kernel
theorem d_P_say_28 : decode b_P_say 28 = .ok (.ldc 99, 2) := by decide +kernel
theorem d_P_say_30 : decode b_P_say 30 = .ok (.invokespecial 62, 3) := by decide +kernel
theorem d_P_say_33 : decode b_P_say 33 = .ok (.athrow, 1) := by decide +kernel
theorem d_P_say_34 : decode b_P_say 34 = .ok (.aload_n 0, 1) := by decide +kernel
theorem d_P_say_35 : decode b_P_say 35 = .ok (.getfield 101, 3) := by decide +kernel
theorem d_P_say_38 : decode b_P_say 38 = .ok (.iload 5, 2) := by decide +kernel
theorem d_P_say_40 : decode b_P_say 40 = .ok (.iadd, 1) := by decide +kernel
theorem d_P_say_41 : decode b_P_say 41 = .ok (.sipush (4000), 3) := by decide +kernel
theorem d_P_say_44 : decode b_P_say 44 = .ok (.if_icmp .le (13), 3) := by decide +kernel
theorem d_P_say_47 : decode b_P_say 47 = .ok (.new 47, 3) := by decide +kernel
theorem d_P_say_50 : decode b_P_say 50 = .ok (.dup, 1) := by decide +kernel
theorem d_P_say_51 : decode b_P_say 51 = .ok (.ldc 104, 2) := by decide +kernel
theorem d_P_say_53 : decode b_P_say 53 = .ok (.invokespecial 51, 3) := by decide +kernel
theorem d_P_say_56 : decode b_P_say 56 = .ok (.athrow, 1) := by decide +kernel
theorem d_P_say_57 : decode b_P_say 57 = .ok (.aload_n 0, 1) := by decide +kernel
theorem d_P_say_58 : decode b_P_say 58 = .ok (.getfield 36, 3) := by decide +kernel
theorem d_P_say_61 : decode b_P_say 61 = .ok (.getfield 106, 3) := by decide +kernel
theorem d_P_say_64 : decode b_P_say 64 = .ok (.astore 6, 2) := by decide +kernel
theorem d_P_say_66 : decode b_P_say 66 = .ok (.aload 6, 2) := by decide +kernel
theorem d_P_say_68 : decode b_P_say 68 = .ok (.ifnull (13), 3) := by decide +kernel
theorem d_P_say_71 : decode b_P_say 71 = .ok (.aload 6, 2) := by decide +kernel
theorem d_P_say_73 : decode b_P_say 73 = .ok (.getfield 109, 3) := by decide +kernel
theorem d_P_say_76 : decode b_P_say 76 = .ok (.bipush (10), 2) := by decide +kernel
theorem d_P_say_78 : decode b_P_say 78 = .ok (.if_icmp .eq (29), 3) := by decide +kernel
theorem d_P_say_81 : decode b_P_say 81 = .ok (.aload_n 0, 1) := by decide +kernel
theorem d_P_say_82 : decode b_P_say 82 = .ok (.invokevirtual 43, 3) := by decide +kernel
theorem d_P_say_85 : decode b_P_say 85 = .ok (.ifCond .eq (13), 3) := by decide +kernel
theorem d_P_say_88 : decode b_P_say 88 = .ok (.new 47, 3) := by decide +kernel
theorem d_P_say_91 : decode b_P_say 91 = .ok (.dup, 1) := by decide +kernel
theorem d_P_say_92 : decode b_P_say 92 = .ok (.ldc 49, 2) := by decide +kernel
theorem d_P_say_94 : decode b_P_say 94 = .ok (.invokespecial 51, 3) := by decide +kernel
theorem d_P_say_97 : decode b_P_say 97 = .ok (.athrow, 1) := by decide +kernel
theorem d_P_say_98 : decode b_P_say 98 = .ok (.aload_n 0, 1) := by decide +kernel
theorem d_P_say_99 : decode b_P_say 99 = .ok (.bipush (10), 2) := by decide +kernel
theorem d_P_say_101 : decode b_P_say 101 = .ok (.iconst 0, 1) := by decide +kernel
theorem d_P_say_102 : decode b_P_say 102 = .ok (.invokevirtual 69, 3) := by decide +kernel
theorem d_P_say_105 : decode b_P_say 105 = .ok (.astore 6, 2) := by decide +kernel
theorem d_P_say_107 : decode b_P_say 107 = .ok (.aload_n 0, 1) := by decide +kernel
theorem d_P_say_108 : decode b_P_say 108 = .ok (.iload_n 1, 1) := by decide +kernel
theorem d_P_say_109 : decode b_P_say 109 = .ok (.iload_n 2, 1) := by decide +kernel
theorem d_P_say_110 : decode b_P_say 110 = .ok (.iload_n 3, 1) := by decide +kernel
theorem d_P_say_111 : decode b_P_say 111 = .ok (.iload 4, 2) := by decide +kernel
theorem d_P_say_113 : decode b_P_say 113 = .ok (.iload 5, 2) := by decide +kernel
theorem d_P_say_115 : decode b_P_say 115 = .ok (.invokevirtual 112, 3) := by decide +kernel
theorem d_P_say_118 : decode b_P_say 118 = .ok (.aload 6, 2) := by decide +kernel
theorem d_P_say_120 : decode b_P_say 120 = .ok (.dup, 1) := by decide +kernel
theorem d_P_say_121 : decode b_P_say 121 = .ok (.getfield 116, 3) := by decide +kernel
theorem d_P_say_124 : decode b_P_say 124 = .ok (.iload 5, 2) := by decide +kernel
theorem d_P_say_126 : decode b_P_say 126 = .ok (.iadd, 1) := by decide +kernel
theorem d_P_say_127 : decode b_P_say 127 = .ok (.putfield 116, 3) := by decide +kernel
theorem d_P_say_130 : decode b_P_say 130 = .ok (.aload 6, 2) := by decide +kernel
theorem d_P_say_132 : decode b_P_say 132 = .ok (.aload_n 0, 1) := by decide +kernel
theorem d_P_say_133 : decode b_P_say 133 = .ok (.getfield 18, 3) := by decide +kernel
theorem d_P_say_136 : decode b_P_say 136 = .ok (.getfield 73, 3) := by decide +kernel
theorem d_P_say_139 : decode b_P_say 139 = .ok (.invokevirtual 83, 3) := by decide +kernel
theorem d_P_say_142 : decode b_P_say 142 = .ok (.invokevirtual 87, 3) := by decide +kernel
theorem d_P_say_145 : decode b_P_say 145 = .ok (.aload 6, 2) := by decide +kernel
theorem d_P_say_147 : decode b_P_say 147 = .ok (.getfield 93, 3) := by decide +kernel
theorem d_P_say_150 : decode b_P_say 150 = .ok (.ireturn, 1) := by decide +kernel
theorem d_L_law_0 : decode b_L_law 0 = .ok (.new 8, 3) := by decide +kernel
theorem d_L_law_3 : decode b_L_law 3 = .ok (.dup, 1) := by decide +kernel
theorem d_L_law_4 : decode b_L_law 4 = .ok (.invokespecial 24, 3) := by decide +kernel
theorem d_L_law_7 : decode b_L_law 7 = .ok (.astore_n 1, 1) := by decide +kernel
theorem d_L_law_8 : decode b_L_law 8 = .ok (.new 25, 3) := by decide +kernel
theorem d_L_law_11 : decode b_L_law 11 = .ok (.dup, 1) := by decide +kernel
theorem d_L_law_12 : decode b_L_law 12 = .ok (.invokespecial 27, 3) := by decide +kernel
theorem d_L_law_15 : decode b_L_law 15 = .ok (.astore_n 2, 1) := by decide +kernel
theorem d_L_law_16 : decode b_L_law 16 = .ok (.iconst 1, 1) := by decide +kernel
theorem d_L_law_17 : decode b_L_law 17 = .ok (.newarray .long, 2) := by decide +kernel
theorem d_L_law_19 : decode b_L_law 19 = .ok (.astore_n 3, 1) := by decide +kernel
theorem d_L_law_20 : decode b_L_law 20 = .ok (.iconst 0, 1) := by decide +kernel
theorem d_L_law_21 : decode b_L_law 21 = .ok (.istore 4, 2) := by decide +kernel
theorem d_L_law_23 : decode b_L_law 23 = .ok (.iload 4, 2) := by decide +kernel
