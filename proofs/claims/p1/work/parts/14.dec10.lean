theorem d_M_say_36 : decode b_M_say 36 = .ok (.iconst 0, 1) := by decide +kernel
theorem d_M_say_37 : decode b_M_say 37 = .ok (.istore 6, 2) := by decide +kernel
theorem d_M_say_39 : decode b_M_say 39 = .ok (.aload_n 0, 1) := by decide +kernel
theorem d_M_say_40 : decode b_M_say 40 = .ok (.iload 5, 2) := by decide +kernel
theorem d_M_say_42 : decode b_M_say 42 = .ok (.iconst 1, 1) := by decide +kernel
theorem d_M_say_43 : decode b_M_say 43 = .ok (.if_icmp .lt (26), 3) := by decide +kernel
theorem d_M_say_46 : decode b_M_say 46 = .ok (.iload 5, 2) := by decide +kernel
theorem d_M_say_48 : decode b_M_say 48 = .ok (.iconst 4, 1) := by decide +kernel
theorem d_M_say_49 : decode b_M_say 49 = .ok (.if_icmp .gt (20), 3) := by decide +kernel
theorem d_M_say_52 : decode b_M_say 52 = .ok (.aload_n 0, 1) := by decide +kernel
theorem d_M_say_53 : decode b_M_say 53 = .ok (.getfield 7, 3) := by decide +kernel
theorem d_M_say_56 : decode b_M_say 56 = .ok (.aload_n 0, 1) := by decide +kernel
theorem d_M_say_57 : decode b_M_say 57 = .ok (.getfield 107, 3) := by decide +kernel
theorem d_M_say_60 : decode b_M_say 60 = .ok (.iaload, 1) := by decide +kernel
theorem d_M_say_61 : decode b_M_say 61 = .ok (.bipush (10), 2) := by decide +kernel
theorem d_M_say_63 : decode b_M_say 63 = .ok (.invokestatic 132, 3) := by decide +kernel
theorem d_M_say_66 : decode b_M_say 66 = .ok (.ifCond .ne (7), 3) := by decide +kernel
theorem d_M_say_69 : decode b_M_say 69 = .ok (.iconst 1, 1) := by decide +kernel
theorem d_M_say_70 : decode b_M_say 70 = .ok (.goto (33), 3) := by decide +kernel
theorem d_M_say_73 : decode b_M_say 73 = .ok (.aload_n 0, 1) := by decide +kernel
theorem d_M_say_74 : decode b_M_say 74 = .ok (.getfield 104, 3) := by decide +kernel
theorem d_M_say_77 : decode b_M_say 77 = .ok (.iload 5, 2) := by decide +kernel
theorem d_M_say_79 : decode b_M_say 79 = .ok (.iadd, 1) := by decide +kernel
theorem d_M_say_80 : decode b_M_say 80 = .ok (.sipush (4000), 3) := by decide +kernel
theorem d_M_say_83 : decode b_M_say 83 = .ok (.if_icmp .gt (15), 3) := by decide +kernel
theorem d_M_say_86 : decode b_M_say 86 = .ok (.iload 6, 2) := by decide +kernel
theorem d_M_say_88 : decode b_M_say 88 = .ok (.ifCond .eq (14), 3) := by decide +kernel
theorem d_M_say_91 : decode b_M_say 91 = .ok (.aload_n 0, 1) := by decide +kernel
theorem d_M_say_92 : decode b_M_say 92 = .ok (.invokevirtual 137, 3) := by decide +kernel
theorem d_M_say_95 : decode b_M_say 95 = .ok (.ifCond .eq (7), 3) := by decide +kernel
theorem d_M_say_98 : decode b_M_say 98 = .ok (.iconst 2, 1) := by decide +kernel
theorem d_M_say_99 : decode b_M_say 99 = .ok (.goto (4), 3) := by decide +kernel
theorem d_M_say_102 : decode b_M_say 102 = .ok (.iconst 0, 1) := by decide +kernel
theorem d_M_say_103 : decode b_M_say 103 = .ok (.putfield 97, 3) := by decide +kernel
theorem d_M_say_106 : decode b_M_say 106 = .ok (.aload_n 0, 1) := by decide +kernel
theorem d_M_say_107 : decode b_M_say 107 = .ok (.getfield 97, 3) := by decide +kernel
theorem d_M_say_110 : decode b_M_say 110 = .ok (.ifCond .le (5), 3) := by decide +kernel
theorem d_M_say_113 : decode b_M_say 113 = .ok (.iconst 0, 1) := by decide +kernel
theorem d_M_say_114 : decode b_M_say 114 = .ok (.ireturn, 1) := by decide +kernel
theorem d_M_say_115 : decode b_M_say 115 = .ok (.iload 6, 2) := by decide +kernel
theorem d_M_say_117 : decode b_M_say 117 = .ok (.ifCond .eq (13), 3) := by decide +kernel
theorem d_M_say_120 : decode b_M_say 120 = .ok (.aload_n 0, 1) := by decide +kernel
theorem d_M_say_121 : decode b_M_say 121 = .ok (.bipush (10), 2) := by decide +kernel
theorem d_M_say_123 : decode b_M_say 123 = .ok (.iconst 0, 1) := by decide +kernel
theorem d_M_say_124 : decode b_M_say 124 = .ok (.invokevirtual 141, 3) := by decide +kernel
theorem d_M_say_127 : decode b_M_say 127 = .ok (.goto (12), 3) := by decide +kernel
theorem d_M_say_130 : decode b_M_say 130 = .ok (.aload_n 0, 1) := by decide +kernel
theorem d_M_say_131 : decode b_M_say 131 = .ok (.getfield 28, 3) := by decide +kernel
theorem d_M_say_134 : decode b_M_say 134 = .ok (.aload_n 0, 1) := by decide +kernel
theorem d_M_say_135 : decode b_M_say 135 = .ok (.getfield 107, 3) := by decide +kernel
theorem d_M_say_138 : decode b_M_say 138 = .ok (.iaload, 1) := by decide +kernel
theorem d_M_say_139 : decode b_M_say 139 = .ok (.istore 7, 2) := by decide +kernel
theorem d_M_say_141 : decode b_M_say 141 = .ok (.iconst 0, 1) := by decide +kernel
theorem d_M_say_142 : decode b_M_say 142 = .ok (.istore 8, 2) := by decide +kernel
theorem d_M_say_144 : decode b_M_say 144 = .ok (.iload 8, 2) := by decide +kernel
theorem d_M_say_146 : decode b_M_say 146 = .ok (.iload 5, 2) := by decide +kernel
theorem d_M_say_148 : decode b_M_say 148 = .ok (.if_icmp .ge (60), 3) := by decide +kernel
theorem d_M_say_151 : decode b_M_say 151 = .ok (.aload_n 0, 1) := by decide +kernel
theorem d_M_say_152 : decode b_M_say 152 = .ok (.getfield 31, 3) := by decide +kernel
theorem d_M_say_155 : decode b_M_say 155 = .ok (.aload_n 0, 1) := by decide +kernel
theorem d_M_say_156 : decode b_M_say 156 = .ok (.getfield 104, 3) := by decide +kernel
theorem d_M_say_159 : decode b_M_say 159 = .ok (.iload 8, 2) := by decide +kernel
theorem d_M_say_161 : decode b_M_say 161 = .ok (.ifCond .ne (7), 3) := by decide +kernel
theorem d_M_say_164 : decode b_M_say 164 = .ok (.iload_n 1, 1) := by decide +kernel
theorem d_M_say_165 : decode b_M_say 165 = .ok (.goto (25), 3) := by decide +kernel
theorem d_M_say_168 : decode b_M_say 168 = .ok (.iload 8, 2) := by decide +kernel
theorem d_M_say_170 : decode b_M_say 170 = .ok (.iconst 1, 1) := by decide +kernel
theorem d_M_say_171 : decode b_M_say 171 = .ok (.if_icmp .ne (7), 3) := by decide +kernel
theorem d_M_say_174 : decode b_M_say 174 = .ok (.iload_n 2, 1) := by decide +kernel
theorem d_M_say_175 : decode b_M_say 175 = .ok (.goto (15), 3) := by decide +kernel
theorem d_M_say_178 : decode b_M_say 178 = .ok (.iload 8, 2) := by decide +kernel
theorem d_M_say_180 : decode b_M_say 180 = .ok (.iconst 2, 1) := by decide +kernel
theorem d_M_say_181 : decode b_M_say 181 = .ok (.if_icmp .ne (7), 3) := by decide +kernel
theorem d_M_say_184 : decode b_M_say 184 = .ok (.iload_n 3, 1) := by decide +kernel
theorem d_M_say_185 : decode b_M_say 185 = .ok (.goto (5), 3) := by decide +kernel
theorem d_M_say_188 : decode b_M_say 188 = .ok (.iload 4, 2) := by decide +kernel
theorem d_M_say_190 : decode b_M_say 190 = .ok (.i2b, 1) := by decide +kernel
theorem d_M_say_191 : decode b_M_say 191 = .ok (.bastore, 1) := by decide +kernel
theorem d_M_say_192 : decode b_M_say 192 = .ok (.aload_n 0, 1) := by decide +kernel
theorem d_M_say_193 : decode b_M_say 193 = .ok (.dup, 1) := by decide +kernel
theorem d_M_say_194 : decode b_M_say 194 = .ok (.getfield 104, 3) := by decide +kernel
theorem d_M_say_197 : decode b_M_say 197 = .ok (.iconst 1, 1) := by decide +kernel
theorem d_M_say_198 : decode b_M_say 198 = .ok (.iadd, 1) := by decide +kernel
theorem d_M_say_199 : decode b_M_say 199 = .ok (.putfield 104, 3) := by decide +kernel
theorem d_M_say_202 : decode b_M_say 202 = .ok (.iinc 8 (1), 3) := by decide +kernel
theorem d_M_say_205 : decode b_M_say 205 = .ok (.goto (-61), 3) := by decide +kernel
theorem d_M_say_208 : decode b_M_say 208 = .ok (.aload_n 0, 1) := by decide +kernel
theorem d_M_say_209 : decode b_M_say 209 = .ok (.getfield 25, 3) := by decide +kernel
theorem d_M_say_212 : decode b_M_say 212 = .ok (.iload 7, 2) := by decide +kernel
theorem d_M_say_214 : decode b_M_say 214 = .ok (.dup2, 1) := by decide +kernel
theorem d_M_say_215 : decode b_M_say 215 = .ok (.iaload, 1) := by decide +kernel
theorem d_M_say_216 : decode b_M_say 216 = .ok (.iload 5, 2) := by decide +kernel
theorem d_M_say_218 : decode b_M_say 218 = .ok (.iadd, 1) := by decide +kernel
theorem d_M_say_219 : decode b_M_say 219 = .ok (.iastore, 1) := by decide +kernel
theorem d_M_say_220 : decode b_M_say 220 = .ok (.iload 7, 2) := by decide +kernel
theorem d_M_say_222 : decode b_M_say 222 = .ok (.ireturn, 1) := by decide +kernel
theorem d_M_cell_0 : decode b_M_cell 0 = .ok (.aload_n 0, 1) := by decide +kernel
theorem d_M_cell_1 : decode b_M_cell 1 = .ok (.iconst 0, 1) := by decide +kernel
theorem d_M_cell_2 : decode b_M_cell 2 = .ok (.putfield 97, 3) := by decide +kernel
theorem d_M_cell_5 : decode b_M_cell 5 = .ok (.iload_n 1, 1) := by decide +kernel
theorem d_M_cell_6 : decode b_M_cell 6 = .ok (.ifCond .lt (35), 3) := by decide +kernel
theorem d_M_cell_9 : decode b_M_cell 9 = .ok (.iload_n 1, 1) := by decide +kernel
theorem d_M_cell_10 : decode b_M_cell 10 = .ok (.aload_n 0, 1) := by decide +kernel
theorem d_M_cell_11 : decode b_M_cell 11 = .ok (.getfield 110, 3) := by decide +kernel
theorem d_M_cell_14 : decode b_M_cell 14 = .ok (.if_icmp .ge (27), 3) := by decide +kernel
theorem d_M_cell_17 : decode b_M_cell 17 = .ok (.iload_n 2, 1) := by decide +kernel
theorem d_M_cell_18 : decode b_M_cell 18 = .ok (.ifCond .lt (23), 3) := by decide +kernel
theorem d_M_cell_21 : decode b_M_cell 21 = .ok (.iload_n 2, 1) := by decide +kernel
theorem d_M_cell_22 : decode b_M_cell 22 = .ok (.aload_n 0, 1) := by decide +kernel
theorem d_M_cell_23 : decode b_M_cell 23 = .ok (.getfield 116, 3) := by decide +kernel
theorem d_M_cell_26 : decode b_M_cell 26 = .ok (.if_icmp .ge (15), 3) := by decide +kernel
theorem d_M_cell_29 : decode b_M_cell 29 = .ok (.iload_n 3, 1) := by decide +kernel
theorem d_M_cell_30 : decode b_M_cell 30 = .ok (.ifCond .lt (11), 3) := by decide +kernel
theorem d_M_cell_33 : decode b_M_cell 33 = .ok (.iload_n 3, 1) := by decide +kernel
theorem d_M_cell_34 : decode b_M_cell 34 = .ok (.aload_n 0, 1) := by decide +kernel
theorem d_M_cell_35 : decode b_M_cell 35 = .ok (.getfield 119, 3) := by decide +kernel
theorem d_M_cell_38 : decode b_M_cell 38 = .ok (.if_icmp .lt (5), 3) := by decide +kernel
theorem d_M_cell_41 : decode b_M_cell 41 = .ok (.iconst (-1), 1) := by decide +kernel
theorem d_M_cell_42 : decode b_M_cell 42 = .ok (.ireturn, 1) := by decide +kernel
theorem d_M_cell_43 : decode b_M_cell 43 = .ok (.bipush (32), 2) := by decide +kernel
theorem d_M_cell_45 : decode b_M_cell 45 = .ok (.istore 4, 2) := by decide +kernel
theorem d_M_cell_47 : decode b_M_cell 47 = .ok (.iconst 0, 1) := by decide +kernel
theorem d_M_cell_48 : decode b_M_cell 48 = .ok (.istore 5, 2) := by decide +kernel
theorem d_M_cell_50 : decode b_M_cell 50 = .ok (.iload 5, 2) := by decide +kernel
theorem d_M_cell_52 : decode b_M_cell 52 = .ok (.aload_n 0, 1) := by decide +kernel
theorem d_M_cell_53 : decode b_M_cell 53 = .ok (.getfield 113, 3) := by decide +kernel
theorem d_M_cell_56 : decode b_M_cell 56 = .ok (.if_icmp .ge (54), 3) := by decide +kernel
theorem d_M_cell_59 : decode b_M_cell 59 = .ok (.aload_n 0, 1) := by decide +kernel
theorem d_M_cell_60 : decode b_M_cell 60 = .ok (.getfield 41, 3) := by decide +kernel
theorem d_M_cell_63 : decode b_M_cell 63 = .ok (.iload 5, 2) := by decide +kernel
theorem d_M_cell_65 : decode b_M_cell 65 = .ok (.iaload, 1) := by decide +kernel
theorem d_M_cell_66 : decode b_M_cell 66 = .ok (.iload_n 1, 1) := by decide +kernel
theorem d_M_cell_67 : decode b_M_cell 67 = .ok (.if_icmp .ne (33), 3) := by decide +kernel
theorem d_M_cell_70 : decode b_M_cell 70 = .ok (.aload_n 0, 1) := by decide +kernel
theorem d_M_cell_71 : decode b_M_cell 71 = .ok (.getfield 44, 3) := by decide +kernel
theorem d_M_cell_74 : decode b_M_cell 74 = .ok (.iload 5, 2) := by decide +kernel
theorem d_M_cell_76 : decode b_M_cell 76 = .ok (.iaload, 1) := by decide +kernel
theorem d_M_cell_77 : decode b_M_cell 77 = .ok (.iload_n 2, 1) := by decide +kernel
theorem d_M_cell_78 : decode b_M_cell 78 = .ok (.if_icmp .ne (22), 3) := by decide +kernel
theorem d_M_cell_81 : decode b_M_cell 81 = .ok (.aload_n 0, 1) := by decide +kernel
theorem d_M_cell_82 : decode b_M_cell 82 = .ok (.getfield 52, 3) := by decide +kernel
theorem d_M_cell_85 : decode b_M_cell 85 = .ok (.bipush (60), 2) := by decide +kernel
theorem d_M_cell_87 : decode b_M_cell 87 = .ok (.iload 5, 2) := by decide +kernel
theorem d_M_cell_89 : decode b_M_cell 89 = .ok (.imul, 1) := by decide +kernel
theorem d_M_cell_90 : decode b_M_cell 90 = .ok (.iload_n 3, 1) := by decide +kernel
theorem d_M_cell_91 : decode b_M_cell 91 = .ok (.iadd, 1) := by decide +kernel
theorem d_M_cell_92 : decode b_M_cell 92 = .ok (.baload, 1) := by decide +kernel
theorem d_M_cell_93 : decode b_M_cell 93 = .ok (.sipush (255), 3) := by decide +kernel
theorem d_M_cell_96 : decode b_M_cell 96 = .ok (.iand, 1) := by decide +kernel
theorem d_M_cell_97 : decode b_M_cell 97 = .ok (.goto (5), 3) := by decide +kernel
