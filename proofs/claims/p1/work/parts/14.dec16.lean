theorem d_M_layOut_32 : decode b_M_layOut 32 = .ok (.iconst 0, 1) := by decide +kernel
theorem d_M_layOut_33 : decode b_M_layOut 33 = .ok (.istore_n 2, 1) := by decide +kernel
theorem d_M_layOut_34 : decode b_M_layOut 34 = .ok (.iload_n 2, 1) := by decide +kernel
theorem d_M_layOut_35 : decode b_M_layOut 35 = .ok (.aload_n 0, 1) := by decide +kernel
theorem d_M_layOut_36 : decode b_M_layOut 36 = .ok (.getfield 101, 3) := by decide +kernel
theorem d_M_layOut_39 : decode b_M_layOut 39 = .ok (.if_icmp .gt (76), 3) := by decide +kernel
theorem d_M_layOut_42 : decode b_M_layOut 42 = .ok (.aload_n 0, 1) := by decide +kernel
theorem d_M_layOut_43 : decode b_M_layOut 43 = .ok (.getfield 159, 3) := by decide +kernel
theorem d_M_layOut_46 : decode b_M_layOut 46 = .ok (.sipush (1500), 3) := by decide +kernel
theorem d_M_layOut_49 : decode b_M_layOut 49 = .ok (.if_icmp .gt (66), 3) := by decide +kernel
theorem d_M_layOut_52 : decode b_M_layOut 52 = .ok (.iload_n 2, 1) := by decide +kernel
theorem d_M_layOut_53 : decode b_M_layOut 53 = .ok (.aload_n 0, 1) := by decide +kernel
theorem d_M_layOut_54 : decode b_M_layOut 54 = .ok (.getfield 101, 3) := by decide +kernel
theorem d_M_layOut_57 : decode b_M_layOut 57 = .ok (.if_icmp .ge (12), 3) := by decide +kernel
theorem d_M_layOut_60 : decode b_M_layOut 60 = .ok (.aload_n 0, 1) := by decide +kernel
theorem d_M_layOut_61 : decode b_M_layOut 61 = .ok (.getfield 13, 3) := by decide +kernel
theorem d_M_layOut_64 : decode b_M_layOut 64 = .ok (.iload_n 2, 1) := by decide +kernel
theorem d_M_layOut_65 : decode b_M_layOut 65 = .ok (.iaload, 1) := by decide +kernel
theorem d_M_layOut_66 : decode b_M_layOut 66 = .ok (.goto (4), 3) := by decide +kernel
theorem d_M_layOut_69 : decode b_M_layOut 69 = .ok (.iconst (-1), 1) := by decide +kernel
theorem d_M_layOut_70 : decode b_M_layOut 70 = .ok (.istore_n 3, 1) := by decide +kernel
theorem d_M_layOut_71 : decode b_M_layOut 71 = .ok (.iload_n 1, 1) := by decide +kernel
theorem d_M_layOut_72 : decode b_M_layOut 72 = .ok (.iload_n 3, 1) := by decide +kernel
theorem d_M_layOut_73 : decode b_M_layOut 73 = .ok (.if_icmp .eq (18), 3) := by decide +kernel
theorem d_M_layOut_76 : decode b_M_layOut 76 = .ok (.aload_n 0, 1) := by decide +kernel
theorem d_M_layOut_77 : decode b_M_layOut 77 = .ok (.iload_n 1, 1) := by decide +kernel
theorem d_M_layOut_78 : decode b_M_layOut 78 = .ok (.invokevirtual 226, 3) := by decide +kernel
theorem d_M_layOut_81 : decode b_M_layOut 81 = .ok (.aload_n 0, 1) := by decide +kernel
theorem d_M_layOut_82 : decode b_M_layOut 82 = .ok (.getfield 13, 3) := by decide +kernel
theorem d_M_layOut_85 : decode b_M_layOut 85 = .ok (.iload_n 1, 1) := by decide +kernel
theorem d_M_layOut_86 : decode b_M_layOut 86 = .ok (.iaload, 1) := by decide +kernel
theorem d_M_layOut_87 : decode b_M_layOut 87 = .ok (.istore_n 1, 1) := by decide +kernel
theorem d_M_layOut_88 : decode b_M_layOut 88 = .ok (.goto (-17), 3) := by decide +kernel
theorem d_M_layOut_91 : decode b_M_layOut 91 = .ok (.iload_n 2, 1) := by decide +kernel
theorem d_M_layOut_92 : decode b_M_layOut 92 = .ok (.aload_n 0, 1) := by decide +kernel
theorem d_M_layOut_93 : decode b_M_layOut 93 = .ok (.getfield 101, 3) := by decide +kernel
theorem d_M_layOut_96 : decode b_M_layOut 96 = .ok (.if_icmp .ne (6), 3) := by decide +kernel
theorem d_M_layOut_99 : decode b_M_layOut 99 = .ok (.goto (10), 3) := by decide +kernel
theorem d_M_layOut_102 : decode b_M_layOut 102 = .ok (.aload_n 0, 1) := by decide +kernel
theorem d_M_layOut_103 : decode b_M_layOut 103 = .ok (.iload_n 2, 1) := by decide +kernel
theorem d_M_layOut_104 : decode b_M_layOut 104 = .ok (.invokevirtual 229, 3) := by decide +kernel
theorem d_M_layOut_107 : decode b_M_layOut 107 = .ok (.iload_n 2, 1) := by decide +kernel
theorem d_M_layOut_108 : decode b_M_layOut 108 = .ok (.istore_n 1, 1) := by decide +kernel
theorem d_M_layOut_109 : decode b_M_layOut 109 = .ok (.iinc 2 (1), 3) := by decide +kernel
theorem d_M_layOut_112 : decode b_M_layOut 112 = .ok (.goto (-78), 3) := by decide +kernel
theorem d_M_layOut_115 : decode b_M_layOut 115 = .ok (.return_, 1) := by decide +kernel
theorem d_M_paginate_0 : decode b_M_paginate 0 = .ok (.iconst 0, 1) := by decide +kernel
theorem d_M_paginate_1 : decode b_M_paginate 1 = .ok (.istore_n 1, 1) := by decide +kernel
theorem d_M_paginate_2 : decode b_M_paginate 2 = .ok (.iconst 0, 1) := by decide +kernel
theorem d_M_paginate_3 : decode b_M_paginate 3 = .ok (.istore_n 2, 1) := by decide +kernel
theorem d_M_paginate_4 : decode b_M_paginate 4 = .ok (.iconst 0, 1) := by decide +kernel
theorem d_M_paginate_5 : decode b_M_paginate 5 = .ok (.istore_n 3, 1) := by decide +kernel
theorem d_M_paginate_6 : decode b_M_paginate 6 = .ok (.iconst 0, 1) := by decide +kernel
theorem d_M_paginate_7 : decode b_M_paginate 7 = .ok (.istore 4, 2) := by decide +kernel
theorem d_M_paginate_9 : decode b_M_paginate 9 = .ok (.iload 4, 2) := by decide +kernel
theorem d_M_paginate_11 : decode b_M_paginate 11 = .ok (.aload_n 0, 1) := by decide +kernel
theorem d_M_paginate_12 : decode b_M_paginate 12 = .ok (.getfield 113, 3) := by decide +kernel
theorem d_M_paginate_15 : decode b_M_paginate 15 = .ok (.if_icmp .ge (174), 3) := by decide +kernel
theorem d_M_paginate_18 : decode b_M_paginate 18 = .ok (.aload_n 0, 1) := by decide +kernel
theorem d_M_paginate_19 : decode b_M_paginate 19 = .ok (.getfield 41, 3) := by decide +kernel
theorem d_M_paginate_22 : decode b_M_paginate 22 = .ok (.iload 4, 2) := by decide +kernel
theorem d_M_paginate_24 : decode b_M_paginate 24 = .ok (.iconst (-1), 1) := by decide +kernel
theorem d_M_paginate_25 : decode b_M_paginate 25 = .ok (.iastore, 1) := by decide +kernel
theorem d_M_paginate_26 : decode b_M_paginate 26 = .ok (.aload_n 0, 1) := by decide +kernel
theorem d_M_paginate_27 : decode b_M_paginate 27 = .ok (.getfield 44, 3) := by decide +kernel
theorem d_M_paginate_30 : decode b_M_paginate 30 = .ok (.iload 4, 2) := by decide +kernel
theorem d_M_paginate_32 : decode b_M_paginate 32 = .ok (.iconst (-1), 1) := by decide +kernel
theorem d_M_paginate_33 : decode b_M_paginate 33 = .ok (.iastore, 1) := by decide +kernel
theorem d_M_paginate_34 : decode b_M_paginate 34 = .ok (.iload_n 2, 1) := by decide +kernel
theorem d_M_paginate_35 : decode b_M_paginate 35 = .ok (.aload_n 0, 1) := by decide +kernel
theorem d_M_paginate_36 : decode b_M_paginate 36 = .ok (.getfield 116, 3) := by decide +kernel
theorem d_M_paginate_39 : decode b_M_paginate 39 = .ok (.if_icmp .ne (8), 3) := by decide +kernel
theorem d_M_paginate_42 : decode b_M_paginate 42 = .ok (.iinc 1 (1), 3) := by decide +kernel
theorem d_M_paginate_45 : decode b_M_paginate 45 = .ok (.iconst 0, 1) := by decide +kernel
theorem d_M_paginate_46 : decode b_M_paginate 46 = .ok (.istore_n 2, 1) := by decide +kernel
theorem d_M_paginate_47 : decode b_M_paginate 47 = .ok (.iload_n 2, 1) := by decide +kernel
theorem d_M_paginate_48 : decode b_M_paginate 48 = .ok (.ifCond .ne (16), 3) := by decide +kernel
theorem d_M_paginate_51 : decode b_M_paginate 51 = .ok (.aload_n 0, 1) := by decide +kernel
theorem d_M_paginate_52 : decode b_M_paginate 52 = .ok (.getfield 35, 3) := by decide +kernel
theorem d_M_paginate_55 : decode b_M_paginate 55 = .ok (.iload 4, 2) := by decide +kernel
theorem d_M_paginate_57 : decode b_M_paginate 57 = .ok (.iaload, 1) := by decide +kernel
theorem d_M_paginate_58 : decode b_M_paginate 58 = .ok (.ifCond .ne (6), 3) := by decide +kernel
theorem d_M_paginate_61 : decode b_M_paginate 61 = .ok (.goto (122), 3) := by decide +kernel
theorem d_M_paginate_64 : decode b_M_paginate 64 = .ok (.aload_n 0, 1) := by decide +kernel
theorem d_M_paginate_65 : decode b_M_paginate 65 = .ok (.getfield 38, 3) := by decide +kernel
theorem d_M_paginate_68 : decode b_M_paginate 68 = .ok (.iload 4, 2) := by decide +kernel
theorem d_M_paginate_70 : decode b_M_paginate 70 = .ok (.iaload, 1) := by decide +kernel
theorem d_M_paginate_71 : decode b_M_paginate 71 = .ok (.ifCond .le (91), 3) := by decide +kernel
theorem d_M_paginate_74 : decode b_M_paginate 74 = .ok (.iload_n 2, 1) := by decide +kernel
theorem d_M_paginate_75 : decode b_M_paginate 75 = .ok (.ifCond .le (87), 3) := by decide +kernel
theorem d_M_paginate_78 : decode b_M_paginate 78 = .ok (.iload 4, 2) := by decide +kernel
theorem d_M_paginate_80 : decode b_M_paginate 80 = .ok (.aload_n 0, 1) := by decide +kernel
theorem d_M_paginate_81 : decode b_M_paginate 81 = .ok (.getfield 38, 3) := by decide +kernel
theorem d_M_paginate_84 : decode b_M_paginate 84 = .ok (.iload 4, 2) := by decide +kernel
theorem d_M_paginate_86 : decode b_M_paginate 86 = .ok (.iaload, 1) := by decide +kernel
theorem d_M_paginate_87 : decode b_M_paginate 87 = .ok (.iadd, 1) := by decide +kernel
theorem d_M_paginate_88 : decode b_M_paginate 88 = .ok (.istore 5, 2) := by decide +kernel
theorem d_M_paginate_90 : decode b_M_paginate 90 = .ok (.iload 5, 2) := by decide +kernel
theorem d_M_paginate_92 : decode b_M_paginate 92 = .ok (.aload_n 0, 1) := by decide +kernel
theorem d_M_paginate_93 : decode b_M_paginate 93 = .ok (.getfield 113, 3) := by decide +kernel
theorem d_M_paginate_96 : decode b_M_paginate 96 = .ok (.if_icmp .ge (19), 3) := by decide +kernel
theorem d_M_paginate_99 : decode b_M_paginate 99 = .ok (.aload_n 0, 1) := by decide +kernel
theorem d_M_paginate_100 : decode b_M_paginate 100 = .ok (.getfield 35, 3) := by decide +kernel
theorem d_M_paginate_103 : decode b_M_paginate 103 = .ok (.iload 5, 2) := by decide +kernel
theorem d_M_paginate_105 : decode b_M_paginate 105 = .ok (.iaload, 1) := by decide +kernel
theorem d_M_paginate_106 : decode b_M_paginate 106 = .ok (.ifCond .ne (9), 3) := by decide +kernel
theorem d_M_paginate_109 : decode b_M_paginate 109 = .ok (.iinc 5 (1), 3) := by decide +kernel
theorem d_M_paginate_112 : decode b_M_paginate 112 = .ok (.goto (-22), 3) := by decide +kernel
theorem d_M_paginate_115 : decode b_M_paginate 115 = .ok (.iload 5, 2) := by decide +kernel
theorem d_M_paginate_117 : decode b_M_paginate 117 = .ok (.iload 4, 2) := by decide +kernel
theorem d_M_paginate_119 : decode b_M_paginate 119 = .ok (.isub, 1) := by decide +kernel
theorem d_M_paginate_120 : decode b_M_paginate 120 = .ok (.iload 5, 2) := by decide +kernel
theorem d_M_paginate_122 : decode b_M_paginate 122 = .ok (.aload_n 0, 1) := by decide +kernel
theorem d_M_paginate_123 : decode b_M_paginate 123 = .ok (.getfield 113, 3) := by decide +kernel
theorem d_M_paginate_126 : decode b_M_paginate 126 = .ok (.if_icmp .ge (7), 3) := by decide +kernel
theorem d_M_paginate_129 : decode b_M_paginate 129 = .ok (.iconst 1, 1) := by decide +kernel
theorem d_M_paginate_130 : decode b_M_paginate 130 = .ok (.goto (4), 3) := by decide +kernel
theorem d_M_paginate_133 : decode b_M_paginate 133 = .ok (.iconst 0, 1) := by decide +kernel
theorem d_M_paginate_134 : decode b_M_paginate 134 = .ok (.iadd, 1) := by decide +kernel
theorem d_M_paginate_135 : decode b_M_paginate 135 = .ok (.istore 6, 2) := by decide +kernel
theorem d_M_paginate_137 : decode b_M_paginate 137 = .ok (.iload 6, 2) := by decide +kernel
theorem d_M_paginate_139 : decode b_M_paginate 139 = .ok (.aload_n 0, 1) := by decide +kernel
theorem d_M_paginate_140 : decode b_M_paginate 140 = .ok (.getfield 116, 3) := by decide +kernel
theorem d_M_paginate_143 : decode b_M_paginate 143 = .ok (.if_icmp .gt (19), 3) := by decide +kernel
theorem d_M_paginate_146 : decode b_M_paginate 146 = .ok (.iload 6, 2) := by decide +kernel
theorem d_M_paginate_148 : decode b_M_paginate 148 = .ok (.aload_n 0, 1) := by decide +kernel
theorem d_M_paginate_149 : decode b_M_paginate 149 = .ok (.getfield 116, 3) := by decide +kernel
theorem d_M_paginate_152 : decode b_M_paginate 152 = .ok (.iload_n 2, 1) := by decide +kernel
theorem d_M_paginate_153 : decode b_M_paginate 153 = .ok (.isub, 1) := by decide +kernel
theorem d_M_paginate_154 : decode b_M_paginate 154 = .ok (.if_icmp .le (8), 3) := by decide +kernel
theorem d_M_paginate_157 : decode b_M_paginate 157 = .ok (.iinc 1 (1), 3) := by decide +kernel
theorem d_M_paginate_160 : decode b_M_paginate 160 = .ok (.iconst 0, 1) := by decide +kernel
theorem d_M_paginate_161 : decode b_M_paginate 161 = .ok (.istore_n 2, 1) := by decide +kernel
theorem d_M_paginate_162 : decode b_M_paginate 162 = .ok (.aload_n 0, 1) := by decide +kernel
theorem d_M_paginate_163 : decode b_M_paginate 163 = .ok (.getfield 41, 3) := by decide +kernel
theorem d_M_paginate_166 : decode b_M_paginate 166 = .ok (.iload 4, 2) := by decide +kernel
theorem d_M_paginate_168 : decode b_M_paginate 168 = .ok (.iload_n 1, 1) := by decide +kernel
theorem d_M_paginate_169 : decode b_M_paginate 169 = .ok (.iastore, 1) := by decide +kernel
theorem d_M_paginate_170 : decode b_M_paginate 170 = .ok (.aload_n 0, 1) := by decide +kernel
theorem d_M_paginate_171 : decode b_M_paginate 171 = .ok (.getfield 44, 3) := by decide +kernel
theorem d_M_paginate_174 : decode b_M_paginate 174 = .ok (.iload 4, 2) := by decide +kernel
theorem d_M_paginate_176 : decode b_M_paginate 176 = .ok (.iload_n 2, 1) := by decide +kernel
theorem d_M_paginate_177 : decode b_M_paginate 177 = .ok (.iastore, 1) := by decide +kernel
theorem d_M_paginate_178 : decode b_M_paginate 178 = .ok (.iinc 2 (1), 3) := by decide +kernel
theorem d_M_paginate_181 : decode b_M_paginate 181 = .ok (.iconst 1, 1) := by decide +kernel
theorem d_M_paginate_182 : decode b_M_paginate 182 = .ok (.istore_n 3, 1) := by decide +kernel
theorem d_M_paginate_183 : decode b_M_paginate 183 = .ok (.iinc 4 (1), 3) := by decide +kernel
theorem d_M_paginate_186 : decode b_M_paginate 186 = .ok (.goto (-177), 3) := by decide +kernel
theorem d_M_paginate_189 : decode b_M_paginate 189 = .ok (.iload_n 3, 1) := by decide +kernel
theorem d_M_paginate_190 : decode b_M_paginate 190 = .ok (.ifCond .eq (17), 3) := by decide +kernel
