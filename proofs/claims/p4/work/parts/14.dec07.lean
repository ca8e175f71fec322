theorem d_M_pages_39 : decode b_M_pages 39 = .ok (.iconst 0, 1) := by decide +kernel
theorem d_M_pages_40 : decode b_M_pages 40 = .ok (.ireturn, 1) := by decide +kernel
theorem d_M_pages_41 : decode b_M_pages 41 = .ok (.aload_n 0, 1) := by decide +kernel
theorem d_M_pages_42 : decode b_M_pages 42 = .ok (.getfield 119, 3) := by decide +kernel
theorem d_M_pages_45 : decode b_M_pages 45 = .ok (.istore_n 3, 1) := by decide +kernel
theorem d_M_pages_46 : decode b_M_pages 46 = .ok (.aload_n 0, 1) := by decide +kernel
theorem d_M_pages_47 : decode b_M_pages 47 = .ok (.iload_n 2, 1) := by decide +kernel
theorem d_M_pages_48 : decode b_M_pages 48 = .ok (.putfield 119, 3) := by decide +kernel
theorem d_M_pages_51 : decode b_M_pages 51 = .ok (.aload_n 0, 1) := by decide +kernel
theorem d_M_pages_52 : decode b_M_pages 52 = .ok (.iconst 1, 1) := by decide +kernel
theorem d_M_pages_53 : decode b_M_pages 53 = .ok (.putfield 162, 3) := by decide +kernel
theorem d_M_pages_56 : decode b_M_pages 56 = .ok (.aload_n 0, 1) := by decide +kernel
theorem d_M_pages_57 : decode b_M_pages 57 = .ok (.invokevirtual 232, 3) := by decide +kernel
theorem d_M_pages_60 : decode b_M_pages 60 = .ok (.aload_n 0, 1) := by decide +kernel
theorem d_M_pages_61 : decode b_M_pages 61 = .ok (.aload_n 0, 1) := by decide +kernel
theorem d_M_pages_62 : decode b_M_pages 62 = .ok (.getfield 159, 3) := by decide +kernel
theorem d_M_pages_65 : decode b_M_pages 65 = .ok (.sipush (1500), 3) := by decide +kernel
theorem d_M_pages_68 : decode b_M_pages 68 = .ok (.if_icmp .le (7), 3) := by decide +kernel
theorem d_M_pages_71 : decode b_M_pages 71 = .ok (.iconst 2, 1) := by decide +kernel
theorem d_M_pages_72 : decode b_M_pages 72 = .ok (.goto (4), 3) := by decide +kernel
theorem d_M_pages_75 : decode b_M_pages 75 = .ok (.iconst 0, 1) := by decide +kernel
theorem d_M_pages_76 : decode b_M_pages 76 = .ok (.putfield 97, 3) := by decide +kernel
theorem d_M_pages_79 : decode b_M_pages 79 = .ok (.aload_n 0, 1) := by decide +kernel
theorem d_M_pages_80 : decode b_M_pages 80 = .ok (.getfield 97, 3) := by decide +kernel
theorem d_M_pages_83 : decode b_M_pages 83 = .ok (.ifCond .le (10), 3) := by decide +kernel
theorem d_M_pages_86 : decode b_M_pages 86 = .ok (.aload_n 0, 1) := by decide +kernel
theorem d_M_pages_87 : decode b_M_pages 87 = .ok (.iload_n 3, 1) := by decide +kernel
theorem d_M_pages_88 : decode b_M_pages 88 = .ok (.putfield 119, 3) := by decide +kernel
theorem d_M_pages_91 : decode b_M_pages 91 = .ok (.iconst 0, 1) := by decide +kernel
theorem d_M_pages_92 : decode b_M_pages 92 = .ok (.ireturn, 1) := by decide +kernel
theorem d_M_pages_93 : decode b_M_pages 93 = .ok (.aload_n 0, 1) := by decide +kernel
theorem d_M_pages_94 : decode b_M_pages 94 = .ok (.iconst 0, 1) := by decide +kernel
theorem d_M_pages_95 : decode b_M_pages 95 = .ok (.putfield 162, 3) := by decide +kernel
theorem d_M_pages_98 : decode b_M_pages 98 = .ok (.aload_n 0, 1) := by decide +kernel
theorem d_M_pages_99 : decode b_M_pages 99 = .ok (.invokevirtual 232, 3) := by decide +kernel
theorem d_M_pages_102 : decode b_M_pages 102 = .ok (.aload_n 0, 1) := by decide +kernel
theorem d_M_pages_103 : decode b_M_pages 103 = .ok (.aload_n 0, 1) := by decide +kernel
theorem d_M_pages_104 : decode b_M_pages 104 = .ok (.getfield 159, 3) := by decide +kernel
theorem d_M_pages_107 : decode b_M_pages 107 = .ok (.putfield 113, 3) := by decide +kernel
theorem d_M_pages_110 : decode b_M_pages 110 = .ok (.aload_n 0, 1) := by decide +kernel
theorem d_M_pages_111 : decode b_M_pages 111 = .ok (.iload_n 1, 1) := by decide +kernel
theorem d_M_pages_112 : decode b_M_pages 112 = .ok (.putfield 116, 3) := by decide +kernel
theorem d_M_pages_115 : decode b_M_pages 115 = .ok (.aload_n 0, 1) := by decide +kernel
theorem d_M_pages_116 : decode b_M_pages 116 = .ok (.aload_n 0, 1) := by decide +kernel
theorem d_M_pages_117 : decode b_M_pages 117 = .ok (.getfield 101, 3) := by decide +kernel
theorem d_M_pages_120 : decode b_M_pages 120 = .ok (.putfield 122, 3) := by decide +kernel
theorem d_M_pages_123 : decode b_M_pages 123 = .ok (.aload_n 0, 1) := by decide +kernel
theorem d_M_pages_124 : decode b_M_pages 124 = .ok (.aload_n 0, 1) := by decide +kernel
theorem d_M_pages_125 : decode b_M_pages 125 = .ok (.invokevirtual 235, 3) := by decide +kernel
theorem d_M_pages_128 : decode b_M_pages 128 = .ok (.putfield 110, 3) := by decide +kernel
theorem d_M_pages_131 : decode b_M_pages 131 = .ok (.iconst 0, 1) := by decide +kernel
theorem d_M_pages_132 : decode b_M_pages 132 = .ok (.istore 4, 2) := by decide +kernel
theorem d_M_pages_134 : decode b_M_pages 134 = .ok (.iload 4, 2) := by decide +kernel
theorem d_M_pages_136 : decode b_M_pages 136 = .ok (.aload_n 0, 1) := by decide +kernel
theorem d_M_pages_137 : decode b_M_pages 137 = .ok (.getfield 101, 3) := by decide +kernel
theorem d_M_pages_140 : decode b_M_pages 140 = .ok (.if_icmp .ge (108), 3) := by decide +kernel
theorem d_M_pages_143 : decode b_M_pages 143 = .ok (.aload_n 0, 1) := by decide +kernel
theorem d_M_pages_144 : decode b_M_pages 144 = .ok (.getfield 58, 3) := by decide +kernel
theorem d_M_pages_147 : decode b_M_pages 147 = .ok (.iload 4, 2) := by decide +kernel
theorem d_M_pages_149 : decode b_M_pages 149 = .ok (.iaload, 1) := by decide +kernel
theorem d_M_pages_150 : decode b_M_pages 150 = .ok (.ifCond .lt (13), 3) := by decide +kernel
theorem d_M_pages_153 : decode b_M_pages 153 = .ok (.aload_n 0, 1) := by decide +kernel
theorem d_M_pages_154 : decode b_M_pages 154 = .ok (.getfield 58, 3) := by decide +kernel
theorem d_M_pages_157 : decode b_M_pages 157 = .ok (.iload 4, 2) := by decide +kernel
theorem d_M_pages_159 : decode b_M_pages 159 = .ok (.iaload, 1) := by decide +kernel
theorem d_M_pages_160 : decode b_M_pages 160 = .ok (.goto (13), 3) := by decide +kernel
theorem d_M_pages_163 : decode b_M_pages 163 = .ok (.bipush (-2), 2) := by decide +kernel
theorem d_M_pages_165 : decode b_M_pages 165 = .ok (.aload_n 0, 1) := by decide +kernel
theorem d_M_pages_166 : decode b_M_pages 166 = .ok (.getfield 58, 3) := by decide +kernel
theorem d_M_pages_169 : decode b_M_pages 169 = .ok (.iload 4, 2) := by decide +kernel
theorem d_M_pages_171 : decode b_M_pages 171 = .ok (.iaload, 1) := by decide +kernel
theorem d_M_pages_172 : decode b_M_pages 172 = .ok (.isub, 1) := by decide +kernel
theorem d_M_pages_173 : decode b_M_pages 173 = .ok (.istore 5, 2) := by decide +kernel
theorem d_M_pages_175 : decode b_M_pages 175 = .ok (.iload 5, 2) := by decide +kernel
theorem d_M_pages_177 : decode b_M_pages 177 = .ok (.aload_n 0, 1) := by decide +kernel
theorem d_M_pages_178 : decode b_M_pages 178 = .ok (.getfield 113, 3) := by decide +kernel
theorem d_M_pages_181 : decode b_M_pages 181 = .ok (.if_icmp .ge (29), 3) := by decide +kernel
theorem d_M_pages_184 : decode b_M_pages 184 = .ok (.aload_n 0, 1) := by decide +kernel
theorem d_M_pages_185 : decode b_M_pages 185 = .ok (.getfield 41, 3) := by decide +kernel
theorem d_M_pages_188 : decode b_M_pages 188 = .ok (.iload 5, 2) := by decide +kernel
theorem d_M_pages_190 : decode b_M_pages 190 = .ok (.iaload, 1) := by decide +kernel
theorem d_M_pages_191 : decode b_M_pages 191 = .ok (.ifCond .lt (13), 3) := by decide +kernel
theorem d_M_pages_194 : decode b_M_pages 194 = .ok (.aload_n 0, 1) := by decide +kernel
theorem d_M_pages_195 : decode b_M_pages 195 = .ok (.getfield 47, 3) := by decide +kernel
theorem d_M_pages_198 : decode b_M_pages 198 = .ok (.iload 5, 2) := by decide +kernel
theorem d_M_pages_200 : decode b_M_pages 200 = .ok (.baload, 1) := by decide +kernel
theorem d_M_pages_201 : decode b_M_pages 201 = .ok (.ifCond .eq (9), 3) := by decide +kernel
theorem d_M_pages_204 : decode b_M_pages 204 = .ok (.iinc 5 (1), 3) := by decide +kernel
theorem d_M_pages_207 : decode b_M_pages 207 = .ok (.goto (-32), 3) := by decide +kernel
theorem d_M_pages_210 : decode b_M_pages 210 = .ok (.aload_n 0, 1) := by decide +kernel
theorem d_M_pages_211 : decode b_M_pages 211 = .ok (.getfield 55, 3) := by decide +kernel
theorem d_M_pages_214 : decode b_M_pages 214 = .ok (.iload 4, 2) := by decide +kernel
theorem d_M_pages_216 : decode b_M_pages 216 = .ok (.iload 5, 2) := by decide +kernel
theorem d_M_pages_218 : decode b_M_pages 218 = .ok (.aload_n 0, 1) := by decide +kernel
theorem d_M_pages_219 : decode b_M_pages 219 = .ok (.getfield 113, 3) := by decide +kernel
theorem d_M_pages_222 : decode b_M_pages 222 = .ok (.if_icmp .ge (13), 3) := by decide +kernel
theorem d_M_pages_225 : decode b_M_pages 225 = .ok (.aload_n 0, 1) := by decide +kernel
theorem d_M_pages_226 : decode b_M_pages 226 = .ok (.getfield 41, 3) := by decide +kernel
theorem d_M_pages_229 : decode b_M_pages 229 = .ok (.iload 5, 2) := by decide +kernel
theorem d_M_pages_231 : decode b_M_pages 231 = .ok (.iaload, 1) := by decide +kernel
theorem d_M_pages_232 : decode b_M_pages 232 = .ok (.goto (9), 3) := by decide +kernel
theorem d_M_pages_235 : decode b_M_pages 235 = .ok (.aload_n 0, 1) := by decide +kernel
theorem d_M_pages_236 : decode b_M_pages 236 = .ok (.getfield 110, 3) := by decide +kernel
theorem d_M_pages_239 : decode b_M_pages 239 = .ok (.iconst 1, 1) := by decide +kernel
theorem d_M_pages_240 : decode b_M_pages 240 = .ok (.isub, 1) := by decide +kernel
theorem d_M_pages_241 : decode b_M_pages 241 = .ok (.iastore, 1) := by decide +kernel
theorem d_M_pages_242 : decode b_M_pages 242 = .ok (.iinc 4 (1), 3) := by decide +kernel
theorem d_M_pages_245 : decode b_M_pages 245 = .ok (.goto (-111), 3) := by decide +kernel
theorem d_M_pages_248 : decode b_M_pages 248 = .ok (.aload_n 0, 1) := by decide +kernel
theorem d_M_pages_249 : decode b_M_pages 249 = .ok (.getfield 110, 3) := by decide +kernel
theorem d_M_pages_252 : decode b_M_pages 252 = .ok (.ireturn, 1) := by decide +kernel
theorem d_M_cell_0 : decode b_M_cell 0 = .ok (.aload_n 0, 1) := by decide +kernel
theorem d_M_cell_1 : decode b_M_cell 1 = .ok (.iconst 0, 1) := by decide +kernel
theorem d_M_cell_2 : decode b_M_cell 2 = .ok (.putfield 97, 3) := by decide +kernel
theorem d_M_cell_5 : decode b_M_cell 5 = .ok (.iload_n 1, 1) := by decide +kernel
theorem d_M_cell_6 : decode b_M_cell 6 = .ok (.ifCond .lt (35), 3) := by decide +kernel
theorem d_M_cell_9 : decode b_M_cell 9 = .ok (.iload_n 1, 1) := by decide +kernel
theorem d_M_cell_10 : decode b_M_cell 10 = .ok (.aload_n 0, 1) := by decide +kernel
theorem d_M_cell_11 : decode b_M_cell 11 = .ok (.getfield 110, 3) := by decide +kernel
theorem d_M_cell_14 : decode b_M_cell 14 = .ok (.if_icmp .ge (27), 3) := by decide +kernel
theorem d_M_cell_17 : decode b_M_cell 17 = .ok (.iload_n 2, 1) := by decide +kernel
theorem d_M_cell_18 : decode b_M_cell 18 = .ok (.ifCond .lt (23), 3) := by decide +kernel
theorem d_M_cell_21 : decode b_M_cell 21 = .ok (.iload_n 2, 1) := by decide +kernel
theorem d_M_cell_22 : decode b_M_cell 22 = .ok (.aload_n 0, 1) := by decide +kernel
theorem d_M_cell_23 : decode b_M_cell 23 = .ok (.getfield 116, 3) := by decide +kernel
theorem d_M_cell_26 : decode b_M_cell 26 = .ok (.if_icmp .ge (15), 3) := by decide +kernel
theorem d_M_cell_29 : decode b_M_cell 29 = .ok (.iload_n 3, 1) := by decide +kernel
theorem d_M_cell_30 : decode b_M_cell 30 = .ok (.ifCond .lt (11), 3) := by decide +kernel
theorem d_M_cell_33 : decode b_M_cell 33 = .ok (.iload_n 3, 1) := by decide +kernel
theorem d_M_cell_34 : decode b_M_cell 34 = .ok (.aload_n 0, 1) := by decide +kernel
theorem d_M_cell_35 : decode b_M_cell 35 = .ok (.getfield 119, 3) := by decide +kernel
theorem d_M_cell_38 : decode b_M_cell 38 = .ok (.if_icmp .lt (5), 3) := by decide +kernel
theorem d_M_cell_41 : decode b_M_cell 41 = .ok (.iconst (-1), 1) := by decide +kernel
theorem d_M_cell_42 : decode b_M_cell 42 = .ok (.ireturn, 1) := by decide +kernel
theorem d_M_cell_43 : decode b_M_cell 43 = .ok (.bipush (32), 2) := by decide +kernel
theorem d_M_cell_45 : decode b_M_cell 45 = .ok (.istore 4, 2) := by decide +kernel
theorem d_M_cell_47 : decode b_M_cell 47 = .ok (.iconst 0, 1) := by decide +kernel
theorem d_M_cell_48 : decode b_M_cell 48 = .ok (.istore 5, 2) := by decide +kernel
theorem d_M_cell_50 : decode b_M_cell 50 = .ok (.iload 5, 2) := by decide +kernel
theorem d_M_cell_52 : decode b_M_cell 52 = .ok (.aload_n 0, 1) := by decide +kernel
theorem d_M_cell_53 : decode b_M_cell 53 = .ok (.getfield 113, 3) := by decide +kernel
theorem d_M_cell_56 : decode b_M_cell 56 = .ok (.if_icmp .ge (54), 3) := by decide +kernel
theorem d_M_cell_59 : decode b_M_cell 59 = .ok (.aload_n 0, 1) := by decide +kernel
theorem d_M_cell_60 : decode b_M_cell 60 = .ok (.getfield 41, 3) := by decide +kernel
theorem d_M_cell_63 : decode b_M_cell 63 = .ok (.iload 5, 2) := by decide +kernel
theorem d_M_cell_65 : decode b_M_cell 65 = .ok (.iaload, 1) := by decide +kernel
theorem d_M_cell_66 : decode b_M_cell 66 = .ok (.iload_n 1, 1) := by decide +kernel
theorem d_M_cell_67 : decode b_M_cell 67 = .ok (.if_icmp .ne (33), 3) := by decide +kernel
theorem d_M_cell_70 : decode b_M_cell 70 = .ok (.aload_n 0, 1) := by decide +kernel
theorem d_M_cell_71 : decode b_M_cell 71 = .ok (.getfield 44, 3) := by decide +kernel
theorem d_M_cell_74 : decode b_M_cell 74 = .ok (.iload 5, 2) := by decide +kernel
theorem d_M_cell_76 : decode b_M_cell 76 = .ok (.iaload, 1) := by decide +kernel
theorem d_M_cell_77 : decode b_M_cell 77 = .ok (.iload_n 2, 1) := by decide +kernel
theorem d_M_cell_78 : decode b_M_cell 78 = .ok (.if_icmp .ne (22), 3) := by decide +kernel
theorem d_M_cell_81 : decode b_M_cell 81 = .ok (.aload_n 0, 1) := by decide +kernel
theorem d_M_cell_82 : decode b_M_cell 82 = .ok (.getfield 52, 3) := by decide +kernel
theorem d_M_cell_85 : decode b_M_cell 85 = .ok (.bipush (60), 2) := by decide +kernel
theorem d_M_cell_87 : decode b_M_cell 87 = .ok (.iload 5, 2) := by decide +kernel
theorem d_M_cell_89 : decode b_M_cell 89 = .ok (.imul, 1) := by decide +kernel
theorem d_M_cell_90 : decode b_M_cell 90 = .ok (.iload_n 3, 1) := by decide +kernel
theorem d_M_cell_91 : decode b_M_cell 91 = .ok (.iadd, 1) := by decide +kernel
theorem d_M_cell_92 : decode b_M_cell 92 = .ok (.baload, 1) := by decide +kernel
theorem d_M_cell_93 : decode b_M_cell 93 = .ok (.sipush (255), 3) := by decide +kernel
theorem d_M_cell_96 : decode b_M_cell 96 = .ok (.iand, 1) := by decide +kernel
theorem d_M_cell_97 : decode b_M_cell 97 = .ok (.goto (5), 3) := by decide +kernel
theorem d_M_cell_100 : decode b_M_cell 100 = .ok (.iload 4, 2) := by decide +kernel
theorem d_M_cell_102 : decode b_M_cell 102 = .ok (.istore 4, 2) := by decide +kernel
theorem d_M_cell_104 : decode b_M_cell 104 = .ok (.iinc 5 (1), 3) := by decide +kernel
theorem d_M_cell_107 : decode b_M_cell 107 = .ok (.goto (-57), 3) := by decide +kernel
theorem d_M_cell_110 : decode b_M_cell 110 = .ok (.iload 4, 2) := by decide +kernel
theorem d_M_cell_112 : decode b_M_cell 112 = .ok (.ireturn, 1) := by decide +kernel
theorem d_M_page_0 : decode b_M_page 0 = .ok (.aload_n 0, 1) := by decide +kernel
theorem d_M_page_1 : decode b_M_page 1 = .ok (.iconst 0, 1) := by decide +kernel
theorem d_M_page_2 : decode b_M_page 2 = .ok (.putfield 97, 3) := by decide +kernel
theorem d_M_page_5 : decode b_M_page 5 = .ok (.iload_n 1, 1) := by decide +kernel
theorem d_M_page_6 : decode b_M_page 6 = .ok (.ifCond .lt (20), 3) := by decide +kernel
theorem d_M_page_9 : decode b_M_page 9 = .ok (.iload_n 1, 1) := by decide +kernel
theorem d_M_page_10 : decode b_M_page 10 = .ok (.aload_n 0, 1) := by decide +kernel
theorem d_M_page_11 : decode b_M_page 11 = .ok (.getfield 110, 3) := by decide +kernel
theorem d_M_page_14 : decode b_M_page 14 = .ok (.if_icmp .ge (12), 3) := by decide +kernel
theorem d_M_page_17 : decode b_M_page 17 = .ok (.iload_n 2, 1) := by decide +kernel
theorem d_M_page_18 : decode b_M_page 18 = .ok (.ifCond .lt (8), 3) := by decide +kernel
theorem d_M_page_21 : decode b_M_page 21 = .ok (.iload_n 2, 1) := by decide +kernel
theorem d_M_page_22 : decode b_M_page 22 = .ok (.iconst 1, 1) := by decide +kernel
theorem d_M_page_23 : decode b_M_page 23 = .ok (.if_icmp .le (5), 3) := by decide +kernel
theorem d_M_page_26 : decode b_M_page 26 = .ok (.iconst (-1), 1) := by decide +kernel
theorem d_M_page_27 : decode b_M_page 27 = .ok (.ireturn, 1) := by decide +kernel
theorem d_M_page_28 : decode b_M_page 28 = .ok (.iconst 0, 1) := by decide +kernel
theorem d_M_page_29 : decode b_M_page 29 = .ok (.istore_n 3, 1) := by decide +kernel
theorem d_M_page_30 : decode b_M_page 30 = .ok (.aload_n 0, 1) := by decide +kernel
theorem d_M_page_31 : decode b_M_page 31 = .ok (.getfield 113, 3) := by decide +kernel
theorem d_M_page_34 : decode b_M_page 34 = .ok (.istore 4, 2) := by decide +kernel
theorem d_M_page_36 : decode b_M_page 36 = .ok (.aload_n 0, 1) := by decide +kernel
theorem d_M_page_37 : decode b_M_page 37 = .ok (.getfield 113, 3) := by decide +kernel
theorem d_M_page_40 : decode b_M_page 40 = .ok (.iconst 1, 1) := by decide +kernel
theorem d_M_page_41 : decode b_M_page 41 = .ok (.isub, 1) := by decide +kernel
theorem d_M_page_42 : decode b_M_page 42 = .ok (.istore 5, 2) := by decide +kernel
theorem d_M_page_44 : decode b_M_page 44 = .ok (.iload 5, 2) := by decide +kernel
theorem d_M_page_46 : decode b_M_page 46 = .ok (.ifCond .lt (30), 3) := by decide +kernel
theorem d_M_page_49 : decode b_M_page 49 = .ok (.aload_n 0, 1) := by decide +kernel
theorem d_M_page_50 : decode b_M_page 50 = .ok (.getfield 41, 3) := by decide +kernel
theorem d_M_page_53 : decode b_M_page 53 = .ok (.iload 5, 2) := by decide +kernel
theorem d_M_page_55 : decode b_M_page 55 = .ok (.iaload, 1) := by decide +kernel
theorem d_M_page_56 : decode b_M_page 56 = .ok (.iload_n 1, 1) := by decide +kernel
theorem d_M_page_57 : decode b_M_page 57 = .ok (.if_icmp .eq (6), 3) := by decide +kernel
theorem d_M_page_60 : decode b_M_page 60 = .ok (.goto (10), 3) := by decide +kernel
theorem d_M_page_63 : decode b_M_page 63 = .ok (.iinc 3 (1), 3) := by decide +kernel
theorem d_M_page_66 : decode b_M_page 66 = .ok (.iload 5, 2) := by decide +kernel
theorem d_M_page_68 : decode b_M_page 68 = .ok (.istore 4, 2) := by decide +kernel
theorem d_M_page_70 : decode b_M_page 70 = .ok (.iinc 5 (-1), 3) := by decide +kernel
theorem d_M_page_73 : decode b_M_page 73 = .ok (.goto (-29), 3) := by decide +kernel
theorem d_M_page_76 : decode b_M_page 76 = .ok (.iload_n 2, 1) := by decide +kernel
theorem d_M_page_77 : decode b_M_page 77 = .ok (.ifCond .ne (7), 3) := by decide +kernel
theorem d_M_page_80 : decode b_M_page 80 = .ok (.iload_n 3, 1) := by decide +kernel
theorem d_M_page_81 : decode b_M_page 81 = .ok (.goto (5), 3) := by decide +kernel
theorem d_M_page_84 : decode b_M_page 84 = .ok (.iload 4, 2) := by decide +kernel
theorem d_M_page_86 : decode b_M_page 86 = .ok (.ireturn, 1) := by decide +kernel
theorem d_M_line_0 : decode b_M_line 0 = .ok (.aload_n 0, 1) := by decide +kernel
theorem d_M_line_1 : decode b_M_line 1 = .ok (.iconst 0, 1) := by decide +kernel
theorem d_M_line_2 : decode b_M_line 2 = .ok (.putfield 97, 3) := by decide +kernel
theorem d_M_line_5 : decode b_M_line 5 = .ok (.iload_n 1, 1) := by decide +kernel
theorem d_M_line_6 : decode b_M_line 6 = .ok (.ifCond .lt (11), 3) := by decide +kernel
theorem d_M_line_9 : decode b_M_line 9 = .ok (.iload_n 1, 1) := by decide +kernel
theorem d_M_line_10 : decode b_M_line 10 = .ok (.aload_n 0, 1) := by decide +kernel
theorem d_M_line_11 : decode b_M_line 11 = .ok (.getfield 113, 3) := by decide +kernel
theorem d_M_line_14 : decode b_M_line 14 = .ok (.if_icmp .lt (5), 3) := by decide +kernel
theorem d_M_line_17 : decode b_M_line 17 = .ok (.iconst (-1), 1) := by decide +kernel
theorem d_M_line_18 : decode b_M_line 18 = .ok (.ireturn, 1) := by decide +kernel
theorem d_M_line_19 : decode b_M_line 19 = .ok (.iload_n 2, 1) := by decide +kernel
theorem d_M_line_20 : decode b_M_line 20 = .ok (.ifCond .ne (12), 3) := by decide +kernel
theorem d_M_line_23 : decode b_M_line 23 = .ok (.aload_n 0, 1) := by decide +kernel
theorem d_M_line_24 : decode b_M_line 24 = .ok (.getfield 35, 3) := by decide +kernel
theorem d_M_line_27 : decode b_M_line 27 = .ok (.iload_n 1, 1) := by decide +kernel
theorem d_M_line_28 : decode b_M_line 28 = .ok (.iaload, 1) := by decide +kernel
theorem d_M_line_29 : decode b_M_line 29 = .ok (.goto (40), 3) := by decide +kernel
theorem d_M_line_32 : decode b_M_line 32 = .ok (.iload_n 2, 1) := by decide +kernel
theorem d_M_line_33 : decode b_M_line 33 = .ok (.iconst 1, 1) := by decide +kernel
theorem d_M_line_34 : decode b_M_line 34 = .ok (.if_icmp .ne (12), 3) := by decide +kernel
theorem d_M_line_37 : decode b_M_line 37 = .ok (.aload_n 0, 1) := by decide +kernel
theorem d_M_line_38 : decode b_M_line 38 = .ok (.getfield 41, 3) := by decide +kernel
theorem d_M_line_41 : decode b_M_line 41 = .ok (.iload_n 1, 1) := by decide +kernel
theorem d_M_line_42 : decode b_M_line 42 = .ok (.iaload, 1) := by decide +kernel
theorem d_M_line_43 : decode b_M_line 43 = .ok (.goto (26), 3) := by decide +kernel
theorem d_M_line_46 : decode b_M_line 46 = .ok (.iload_n 2, 1) := by decide +kernel
theorem d_M_line_47 : decode b_M_line 47 = .ok (.iconst 2, 1) := by decide +kernel
theorem d_M_line_48 : decode b_M_line 48 = .ok (.if_icmp .ne (20), 3) := by decide +kernel
theorem d_M_line_51 : decode b_M_line 51 = .ok (.aload_n 0, 1) := by decide +kernel
theorem d_M_line_52 : decode b_M_line 52 = .ok (.getfield 38, 3) := by decide +kernel
theorem d_M_line_55 : decode b_M_line 55 = .ok (.iload_n 1, 1) := by decide +kernel
theorem d_M_line_56 : decode b_M_line 56 = .ok (.iaload, 1) := by decide +kernel
theorem d_M_line_57 : decode b_M_line 57 = .ok (.ifCond .le (7), 3) := by decide +kernel
theorem d_M_line_60 : decode b_M_line 60 = .ok (.iconst 1, 1) := by decide +kernel
theorem d_M_line_61 : decode b_M_line 61 = .ok (.goto (8), 3) := by decide +kernel
theorem d_M_line_64 : decode b_M_line 64 = .ok (.iconst 0, 1) := by decide +kernel
theorem d_M_line_65 : decode b_M_line 65 = .ok (.goto (4), 3) := by decide +kernel
theorem d_M_line_68 : decode b_M_line 68 = .ok (.iconst (-1), 1) := by decide +kernel
theorem d_M_line_69 : decode b_M_line 69 = .ok (.ireturn, 1) := by decide +kernel
theorem d_M_find_0 : decode b_M_find 0 = .ok (.aload_n 0, 1) := by decide +kernel
theorem d_M_find_1 : decode b_M_find 1 = .ok (.iconst 0, 1) := by decide +kernel
theorem d_M_find_2 : decode b_M_find 2 = .ok (.putfield 97, 3) := by decide +kernel
theorem d_M_find_5 : decode b_M_find 5 = .ok (.iload_n 1, 1) := by decide +kernel
theorem d_M_find_6 : decode b_M_find 6 = .ok (.ifCond .lt (20), 3) := by decide +kernel
theorem d_M_find_9 : decode b_M_find 9 = .ok (.iload_n 1, 1) := by decide +kernel
theorem d_M_find_10 : decode b_M_find 10 = .ok (.aload_n 0, 1) := by decide +kernel
theorem d_M_find_11 : decode b_M_find 11 = .ok (.getfield 122, 3) := by decide +kernel
theorem d_M_find_14 : decode b_M_find 14 = .ok (.if_icmp .ge (12), 3) := by decide +kernel
theorem d_M_find_17 : decode b_M_find 17 = .ok (.aload_n 0, 1) := by decide +kernel
theorem d_M_find_18 : decode b_M_find 18 = .ok (.getfield 55, 3) := by decide +kernel
theorem d_M_find_21 : decode b_M_find 21 = .ok (.iload_n 1, 1) := by decide +kernel
theorem d_M_find_22 : decode b_M_find 22 = .ok (.iaload, 1) := by decide +kernel
theorem d_M_find_23 : decode b_M_find 23 = .ok (.goto (4), 3) := by decide +kernel
theorem d_M_find_26 : decode b_M_find 26 = .ok (.iconst (-1), 1) := by decide +kernel
theorem d_M_find_27 : decode b_M_find 27 = .ok (.ireturn, 1) := by decide +kernel
theorem d_M_node_0 : decode b_M_node 0 = .ok (.aload_n 0, 1) := by decide +kernel
theorem d_M_node_1 : decode b_M_node 1 = .ok (.iconst 0, 1) := by decide +kernel
theorem d_M_node_2 : decode b_M_node 2 = .ok (.putfield 97, 3) := by decide +kernel
theorem d_M_node_5 : decode b_M_node 5 = .ok (.iload_n 1, 1) := by decide +kernel
theorem d_M_node_6 : decode b_M_node 6 = .ok (.ifCond .lt (11), 3) := by decide +kernel
theorem d_M_node_9 : decode b_M_node 9 = .ok (.iload_n 1, 1) := by decide +kernel
theorem d_M_node_10 : decode b_M_node 10 = .ok (.aload_n 0, 1) := by decide +kernel
theorem d_M_node_11 : decode b_M_node 11 = .ok (.getfield 101, 3) := by decide +kernel
theorem d_M_node_14 : decode b_M_node 14 = .ok (.if_icmp .lt (5), 3) := by decide +kernel
theorem d_M_node_17 : decode b_M_node 17 = .ok (.iconst (-1), 1) := by decide +kernel
theorem d_M_node_18 : decode b_M_node 18 = .ok (.ireturn, 1) := by decide +kernel
theorem d_M_node_19 : decode b_M_node 19 = .ok (.iload_n 2, 1) := by decide +kernel
theorem d_M_node_20 : decode b_M_node 20 = .ok (.tableswitch (84) (0) (2) #[28, 50, 57], 28) := by decide +kernel
theorem d_M_node_48 : decode b_M_node 48 = .ok (.aload_n 0, 1) := by decide +kernel
theorem d_M_node_49 : decode b_M_node 49 = .ok (.getfield 7, 3) := by decide +kernel
theorem d_M_node_52 : decode b_M_node 52 = .ok (.iload_n 1, 1) := by decide +kernel
theorem d_M_node_53 : decode b_M_node 53 = .ok (.iaload, 1) := by decide +kernel
theorem d_M_node_54 : decode b_M_node 54 = .ok (.bipush (11), 2) := by decide +kernel
theorem d_M_node_56 : decode b_M_node 56 = .ok (.if_icmp .ne (7), 3) := by decide +kernel
theorem d_M_node_59 : decode b_M_node 59 = .ok (.iconst (-1), 1) := by decide +kernel
theorem d_M_node_60 : decode b_M_node 60 = .ok (.goto (9), 3) := by decide +kernel
theorem d_M_node_63 : decode b_M_node 63 = .ok (.aload_n 0, 1) := by decide +kernel
theorem d_M_node_64 : decode b_M_node 64 = .ok (.getfield 7, 3) := by decide +kernel
theorem d_M_node_67 : decode b_M_node 67 = .ok (.iload_n 1, 1) := by decide +kernel
theorem d_M_node_68 : decode b_M_node 68 = .ok (.iaload, 1) := by decide +kernel
theorem d_M_node_69 : decode b_M_node 69 = .ok (.ireturn, 1) := by decide +kernel
theorem d_M_node_70 : decode b_M_node 70 = .ok (.aload_n 0, 1) := by decide +kernel
theorem d_M_node_71 : decode b_M_node 71 = .ok (.getfield 13, 3) := by decide +kernel
theorem d_M_node_74 : decode b_M_node 74 = .ok (.iload_n 1, 1) := by decide +kernel
theorem d_M_node_75 : decode b_M_node 75 = .ok (.iaload, 1) := by decide +kernel
theorem d_M_node_76 : decode b_M_node 76 = .ok (.ireturn, 1) := by decide +kernel
theorem d_M_node_77 : decode b_M_node 77 = .ok (.aload_n 0, 1) := by decide +kernel
theorem d_M_node_78 : decode b_M_node 78 = .ok (.getfield 7, 3) := by decide +kernel
theorem d_M_node_81 : decode b_M_node 81 = .ok (.iload_n 1, 1) := by decide +kernel
theorem d_M_node_82 : decode b_M_node 82 = .ok (.iaload, 1) := by decide +kernel
theorem d_M_node_83 : decode b_M_node 83 = .ok (.bipush (10), 2) := by decide +kernel
theorem d_M_node_85 : decode b_M_node 85 = .ok (.if_icmp .ne (12), 3) := by decide +kernel
theorem d_M_node_88 : decode b_M_node 88 = .ok (.aload_n 0, 1) := by decide +kernel
theorem d_M_node_89 : decode b_M_node 89 = .ok (.getfield 25, 3) := by decide +kernel
theorem d_M_node_92 : decode b_M_node 92 = .ok (.iload_n 1, 1) := by decide +kernel
theorem d_M_node_93 : decode b_M_node 93 = .ok (.iaload, 1) := by decide +kernel
theorem d_M_node_94 : decode b_M_node 94 = .ok (.goto (9), 3) := by decide +kernel
theorem d_M_node_97 : decode b_M_node 97 = .ok (.aload_n 0, 1) := by decide +kernel
theorem d_M_node_98 : decode b_M_node 98 = .ok (.getfield 16, 3) := by decide +kernel
theorem d_M_node_101 : decode b_M_node 101 = .ok (.iload_n 1, 1) := by decide +kernel
theorem d_M_node_102 : decode b_M_node 102 = .ok (.iaload, 1) := by decide +kernel
theorem d_M_node_103 : decode b_M_node 103 = .ok (.ireturn, 1) := by decide +kernel
theorem d_M_node_104 : decode b_M_node 104 = .ok (.iconst (-1), 1) := by decide +kernel
theorem d_M_node_105 : decode b_M_node 105 = .ok (.ireturn, 1) := by decide +kernel
theorem d_M_about_0 : decode b_M_about 0 = .ok (.aload_n 0, 1) := by decide +kernel
theorem d_M_about_1 : decode b_M_about 1 = .ok (.iconst 0, 1) := by decide +kernel
theorem d_M_about_2 : decode b_M_about 2 = .ok (.putfield 97, 3) := by decide +kernel
theorem d_M_about_5 : decode b_M_about 5 = .ok (.iload_n 1, 1) := by decide +kernel
theorem d_M_about_6 : decode b_M_about 6 = .ok (.tableswitch (99) (0) (6) #[42, 47, 52, 57, 62, 78, 83], 42) := by decide +kernel
theorem d_M_about_48 : decode b_M_about 48 = .ok (.aload_n 0, 1) := by decide +kernel
theorem d_M_about_49 : decode b_M_about 49 = .ok (.getfield 101, 3) := by decide +kernel
theorem d_M_about_52 : decode b_M_about 52 = .ok (.ireturn, 1) := by decide +kernel
theorem d_M_about_53 : decode b_M_about 53 = .ok (.aload_n 0, 1) := by decide +kernel
theorem d_M_about_54 : decode b_M_about 54 = .ok (.getfield 104, 3) := by decide +kernel
theorem d_M_about_57 : decode b_M_about 57 = .ok (.ireturn, 1) := by decide +kernel
theorem d_M_about_58 : decode b_M_about 58 = .ok (.aload_n 0, 1) := by decide +kernel
theorem d_M_about_59 : decode b_M_about 59 = .ok (.getfield 107, 3) := by decide +kernel
theorem d_M_about_62 : decode b_M_about 62 = .ok (.ireturn, 1) := by decide +kernel
theorem d_M_about_63 : decode b_M_about 63 = .ok (.aload_n 0, 1) := by decide +kernel
theorem d_M_about_64 : decode b_M_about 64 = .ok (.getfield 110, 3) := by decide +kernel
theorem d_M_about_67 : decode b_M_about 67 = .ok (.ireturn, 1) := by decide +kernel
theorem d_M_about_68 : decode b_M_about 68 = .ok (.aload_n 0, 1) := by decide +kernel
theorem d_M_about_69 : decode b_M_about 69 = .ok (.getfield 110, 3) := by decide +kernel
theorem d_M_about_72 : decode b_M_about 72 = .ok (.ifCond .le (10), 3) := by decide +kernel
theorem d_M_about_75 : decode b_M_about 75 = .ok (.aload_n 0, 1) := by decide +kernel
theorem d_M_about_76 : decode b_M_about 76 = .ok (.getfield 113, 3) := by decide +kernel
theorem d_M_about_79 : decode b_M_about 79 = .ok (.goto (4), 3) := by decide +kernel
theorem d_M_about_82 : decode b_M_about 82 = .ok (.iconst 0, 1) := by decide +kernel
theorem d_M_about_83 : decode b_M_about 83 = .ok (.ireturn, 1) := by decide +kernel
theorem d_M_about_84 : decode b_M_about 84 = .ok (.aload_n 0, 1) := by decide +kernel
theorem d_M_about_85 : decode b_M_about 85 = .ok (.getfield 116, 3) := by decide +kernel
theorem d_M_about_88 : decode b_M_about 88 = .ok (.ireturn, 1) := by decide +kernel
theorem d_M_about_89 : decode b_M_about 89 = .ok (.aload_n 0, 1) := by decide +kernel
theorem d_M_about_90 : decode b_M_about 90 = .ok (.getfield 110, 3) := by decide +kernel
theorem d_M_about_93 : decode b_M_about 93 = .ok (.ifCond .le (10), 3) := by decide +kernel
theorem d_M_about_96 : decode b_M_about 96 = .ok (.aload_n 0, 1) := by decide +kernel
theorem d_M_about_97 : decode b_M_about 97 = .ok (.getfield 119, 3) := by decide +kernel
theorem d_M_about_100 : decode b_M_about 100 = .ok (.goto (4), 3) := by decide +kernel
theorem d_M_about_103 : decode b_M_about 103 = .ok (.iconst 0, 1) := by decide +kernel
theorem d_M_about_104 : decode b_M_about 104 = .ok (.ireturn, 1) := by decide +kernel
theorem d_M_about_105 : decode b_M_about 105 = .ok (.iconst (-1), 1) := by decide +kernel
theorem d_M_about_106 : decode b_M_about 106 = .ok (.ireturn, 1) := by decide +kernel
theorem d_N_init_0 : decode b_N_init 0 = .ok (.aload_n 0, 1) := by decide +kernel
theorem d_N_init_1 : decode b_N_init 1 = .ok (.invokespecial 3, 3) := by decide +kernel
theorem d_N_init_4 : decode b_N_init 4 = .ok (.aload_n 0, 1) := by decide +kernel
theorem d_N_init_5 : decode b_N_init 5 = .ok (.iconst (-1), 1) := by decide +kernel
theorem d_N_init_6 : decode b_N_init 6 = .ok (.putfield 9, 3) := by decide +kernel
theorem d_N_init_9 : decode b_N_init 9 = .ok (.aload_n 0, 1) := by decide +kernel
theorem d_N_init_10 : decode b_N_init 10 = .ok (.iload_n 1, 1) := by decide +kernel
theorem d_N_init_11 : decode b_N_init 11 = .ok (.putfield 15, 3) := by decide +kernel
theorem d_N_init_14 : decode b_N_init 14 = .ok (.aload_n 0, 1) := by decide +kernel
theorem d_N_init_15 : decode b_N_init 15 = .ok (.iload_n 2, 1) := by decide +kernel
theorem d_N_init_16 : decode b_N_init 16 = .ok (.putfield 18, 3) := by decide +kernel
theorem d_N_init_19 : decode b_N_init 19 = .ok (.aload_n 0, 1) := by decide +kernel
theorem d_N_init_20 : decode b_N_init 20 = .ok (.iload_n 3, 1) := by decide +kernel
theorem d_N_init_21 : decode b_N_init 21 = .ok (.putfield 21, 3) := by decide +kernel
theorem d_N_init_24 : decode b_N_init 24 = .ok (.aload_n 0, 1) := by decide +kernel
theorem d_N_init_25 : decode b_N_init 25 = .ok (.aload 4, 2) := by decide +kernel
theorem d_N_init_27 : decode b_N_init 27 = .ok (.putfield 24, 3) := by decide +kernel
theorem d_N_init_30 : decode b_N_init 30 = .ok (.aload_n 0, 1) := by decide +kernel
theorem d_N_init_31 : decode b_N_init 31 = .ok (.aload 4, 2) := by decide +kernel
theorem d_N_init_33 : decode b_N_init 33 = .ok (.ifnonnull (7), 3) := by decide +kernel
theorem d_N_init_36 : decode b_N_init 36 = .ok (.iconst 1, 1) := by decide +kernel
theorem d_N_init_37 : decode b_N_init 37 = .ok (.goto (10), 3) := by decide +kernel
theorem d_N_init_40 : decode b_N_init 40 = .ok (.aload 4, 2) := by decide +kernel
theorem d_N_init_42 : decode b_N_init 42 = .ok (.getfield 28, 3) := by decide +kernel
theorem d_N_init_45 : decode b_N_init 45 = .ok (.iconst 1, 1) := by decide +kernel
theorem d_N_init_46 : decode b_N_init 46 = .ok (.iadd, 1) := by decide +kernel
theorem d_N_init_47 : decode b_N_init 47 = .ok (.putfield 28, 3) := by decide +kernel
theorem d_N_init_50 : decode b_N_init 50 = .ok (.aload_n 0, 1) := by decide +kernel
theorem d_N_init_51 : decode b_N_init 51 = .ok (.iload 5, 2) := by decide +kernel
theorem d_N_init_53 : decode b_N_init 53 = .ok (.putfield 31, 3) := by decide +kernel
theorem d_N_init_56 : decode b_N_init 56 = .ok (.aload_n 0, 1) := by decide +kernel
theorem d_N_init_57 : decode b_N_init 57 = .ok (.iload 5, 2) := by decide +kernel
theorem d_N_init_59 : decode b_N_init 59 = .ok (.putfield 34, 3) := by decide +kernel
theorem d_N_init_62 : decode b_N_init 62 = .ok (.return_, 1) := by decide +kernel
theorem d_N_isInline_0 : decode b_N_isInline 0 = .ok (.aload_n 0, 1) := by decide +kernel
theorem d_N_isInline_1 : decode b_N_isInline 1 = .ok (.getfield 18, 3) := by decide +kernel
theorem d_N_isInline_4 : decode b_N_isInline 4 = .ok (.sipush (1792), 3) := by decide +kernel
theorem d_N_isInline_7 : decode b_N_isInline 7 = .ok (.invokestatic 37, 3) := by decide +kernel
theorem d_N_isInline_10 : decode b_N_isInline 10 = .ok (.ireturn, 1) := by decide +kernel
theorem d_N_mayHold_0 : decode b_N_mayHold 0 = .ok (.aload_n 0, 1) := by decide +kernel
