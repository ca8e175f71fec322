theorem d_M_pages_188 : decode b_M_pages 188 = .ok (.iload 5, 2) := by decide +kernel
theorem d_M_pages_190 : decode b_M_pages 190 = .ok (.iaload, 1) := by decide +kernel
theorem d_M_pages_191 : decode b_M_pages 191 = .ok (.ifCond .lt (13), 3) := by decide +kernel
theorem d_M_pages_194 : decode b_M_pages 194 = .ok (.aload_n 0, 1) := by decide +kernel
theorem d_M_pages_195 : decode b_M_pages 195 = .ok (.getfield 47, 3) := by decide +kernel
theorem d_M_pages_198 : decode b_M_pages 198 = .ok (.iload 5, 2) := by decide +kernel
theorem d_M_pages_200 : decode b_M_pages 200 = .ok (.baload, 1) := by decide +kernel
theorem d_M_pages_201 : decode b_M_pages 201 = .ok (.ifCond .eq (9), 3) := by decide +kernel
theorem d_M_pages_204 : decode b_M_pages 204 = .ok (.iinc 5 (1), 3) := by decide +kernel
theorem d_M_pages_207 : decode b_M_pages 207 = .ok (.goto (-32), 3) := by decide +kernel
theorem d_M_pages_210 : decode b_M_pages 210 = .ok (.aload_n 0, 1) := by decide +kernel
theorem d_M_pages_211 : decode b_M_pages 211 = .ok (.getfield 55, 3) := by decide +kernel
theorem d_M_pages_214 : decode b_M_pages 214 = .ok (.iload 4, 2) := by decide +kernel
theorem d_M_pages_216 : decode b_M_pages 216 = .ok (.iload 5, 2) := by decide +kernel
theorem d_M_pages_218 : decode b_M_pages 218 = .ok (.aload_n 0, 1) := by decide +kernel
theorem d_M_pages_219 : decode b_M_pages 219 = .ok (.getfield 113, 3) := by decide +kernel
theorem d_M_pages_222 : decode b_M_pages 222 = .ok (.if_icmp .ge (13), 3) := by decide +kernel
theorem d_M_pages_225 : decode b_M_pages 225 = .ok (.aload_n 0, 1) := by decide +kernel
theorem d_M_pages_226 : decode b_M_pages 226 = .ok (.getfield 41, 3) := by decide +kernel
theorem d_M_pages_229 : decode b_M_pages 229 = .ok (.iload 5, 2) := by decide +kernel
theorem d_M_pages_231 : decode b_M_pages 231 = .ok (.iaload, 1) := by decide +kernel
theorem d_M_pages_232 : decode b_M_pages 232 = .ok (.goto (9), 3) := by decide +kernel
theorem d_M_pages_235 : decode b_M_pages 235 = .ok (.aload_n 0, 1) := by decide +kernel
theorem d_M_pages_236 : decode b_M_pages 236 = .ok (.getfield 110, 3) := by decide +kernel
theorem d_M_pages_239 : decode b_M_pages 239 = .ok (.iconst 1, 1) := by decide +kernel
theorem d_M_pages_240 : decode b_M_pages 240 = .ok (.isub, 1) := by decide +kernel
theorem d_M_pages_241 : decode b_M_pages 241 = .ok (.iastore, 1) := by decide +kernel
theorem d_M_pages_242 : decode b_M_pages 242 = .ok (.iinc 4 (1), 3) := by decide +kernel
theorem d_M_pages_245 : decode b_M_pages 245 = .ok (.goto (-111), 3) := by decide +kernel
theorem d_M_pages_248 : decode b_M_pages 248 = .ok (.aload_n 0, 1) := by decide +kernel
theorem d_M_pages_249 : decode b_M_pages 249 = .ok (.getfield 110, 3) := by decide +kernel
theorem d_M_pages_252 : decode b_M_pages 252 = .ok (.ireturn, 1) := by decide +kernel
theorem d_M_hold_0 : decode b_M_hold 0 = .ok (.aload_n 0, 1) := by decide +kernel
theorem d_M_hold_1 : decode b_M_hold 1 = .ok (.getfield 166, 3) := by decide +kernel
theorem d_M_hold_4 : decode b_M_hold 4 = .ok (.ifCond .le (15), 3) := by decide +kernel
theorem d_M_hold_7 : decode b_M_hold 7 = .ok (.aload_n 0, 1) := by decide +kernel
theorem d_M_hold_8 : decode b_M_hold 8 = .ok (.getfield 82, 3) := by decide +kernel
theorem d_M_hold_11 : decode b_M_hold 11 = .ok (.aload_n 0, 1) := by decide +kernel
theorem d_M_hold_12 : decode b_M_hold 12 = .ok (.getfield 166, 3) := by decide +kernel
theorem d_M_hold_15 : decode b_M_hold 15 = .ok (.iconst 1, 1) := by decide +kernel
theorem d_M_hold_16 : decode b_M_hold 16 = .ok (.isub, 1) := by decide +kernel
theorem d_M_hold_17 : decode b_M_hold 17 = .ok (.iconst 1, 1) := by decide +kernel
theorem d_M_hold_18 : decode b_M_hold 18 = .ok (.bastore, 1) := by decide +kernel
theorem d_M_hold_19 : decode b_M_hold 19 = .ok (.aload_n 0, 1) := by decide +kernel
theorem d_M_hold_20 : decode b_M_hold 20 = .ok (.getfield 166, 3) := by decide +kernel
theorem d_M_hold_23 : decode b_M_hold 23 = .ok (.istore 5, 2) := by decide +kernel
theorem d_M_hold_25 : decode b_M_hold 25 = .ok (.aload_n 0, 1) := by decide +kernel
theorem d_M_hold_26 : decode b_M_hold 26 = .ok (.getfield 61, 3) := by decide +kernel
theorem d_M_hold_29 : decode b_M_hold 29 = .ok (.iload 5, 2) := by decide +kernel
theorem d_M_hold_31 : decode b_M_hold 31 = .ok (.iload_n 1, 1) := by decide +kernel
theorem d_M_hold_32 : decode b_M_hold 32 = .ok (.iastore, 1) := by decide +kernel
theorem d_M_hold_33 : decode b_M_hold 33 = .ok (.aload_n 0, 1) := by decide +kernel
theorem d_M_hold_34 : decode b_M_hold 34 = .ok (.getfield 64, 3) := by decide +kernel
theorem d_M_hold_37 : decode b_M_hold 37 = .ok (.iload 5, 2) := by decide +kernel
theorem d_M_hold_39 : decode b_M_hold 39 = .ok (.iload_n 2, 1) := by decide +kernel
theorem d_M_hold_40 : decode b_M_hold 40 = .ok (.iconst 4, 1) := by decide +kernel
theorem d_M_hold_41 : decode b_M_hold 41 = .ok (.if_icmp .ge (7), 3) := by decide +kernel
theorem d_M_hold_44 : decode b_M_hold 44 = .ok (.iconst 4, 1) := by decide +kernel
theorem d_M_hold_45 : decode b_M_hold 45 = .ok (.goto (4), 3) := by decide +kernel
theorem d_M_hold_48 : decode b_M_hold 48 = .ok (.iload_n 2, 1) := by decide +kernel
theorem d_M_hold_49 : decode b_M_hold 49 = .ok (.iastore, 1) := by decide +kernel
theorem d_M_hold_50 : decode b_M_hold 50 = .ok (.aload_n 0, 1) := by decide +kernel
theorem d_M_hold_51 : decode b_M_hold 51 = .ok (.getfield 67, 3) := by decide +kernel
theorem d_M_hold_54 : decode b_M_hold 54 = .ok (.iload 5, 2) := by decide +kernel
theorem d_M_hold_56 : decode b_M_hold 56 = .ok (.iload_n 3, 1) := by decide +kernel
theorem d_M_hold_57 : decode b_M_hold 57 = .ok (.iastore, 1) := by decide +kernel
theorem d_M_hold_58 : decode b_M_hold 58 = .ok (.aload_n 0, 1) := by decide +kernel
theorem d_M_hold_59 : decode b_M_hold 59 = .ok (.getfield 70, 3) := by decide +kernel
theorem d_M_hold_62 : decode b_M_hold 62 = .ok (.iload 5, 2) := by decide +kernel
theorem d_M_hold_64 : decode b_M_hold 64 = .ok (.iload_n 3, 1) := by decide +kernel
theorem d_M_hold_65 : decode b_M_hold 65 = .ok (.iastore, 1) := by decide +kernel
theorem d_M_hold_66 : decode b_M_hold 66 = .ok (.aload_n 0, 1) := by decide +kernel
theorem d_M_hold_67 : decode b_M_hold 67 = .ok (.getfield 73, 3) := by decide +kernel
theorem d_M_hold_70 : decode b_M_hold 70 = .ok (.iload 5, 2) := by decide +kernel
theorem d_M_hold_72 : decode b_M_hold 72 = .ok (.iload_n 1, 1) := by decide +kernel
theorem d_M_hold_73 : decode b_M_hold 73 = .ok (.bipush (7), 2) := by decide +kernel
theorem d_M_hold_75 : decode b_M_hold 75 = .ok (.if_icmp .ne (7), 3) := by decide +kernel
theorem d_M_hold_78 : decode b_M_hold 78 = .ok (.iconst 1, 1) := by decide +kernel
theorem d_M_hold_79 : decode b_M_hold 79 = .ok (.goto (4), 3) := by decide +kernel
theorem d_M_hold_82 : decode b_M_hold 82 = .ok (.iconst 0, 1) := by decide +kernel
theorem d_M_hold_83 : decode b_M_hold 83 = .ok (.bastore, 1) := by decide +kernel
theorem d_M_hold_84 : decode b_M_hold 84 = .ok (.aload_n 0, 1) := by decide +kernel
theorem d_M_hold_85 : decode b_M_hold 85 = .ok (.getfield 76, 3) := by decide +kernel
theorem d_M_hold_88 : decode b_M_hold 88 = .ok (.iload 5, 2) := by decide +kernel
theorem d_M_hold_90 : decode b_M_hold 90 = .ok (.iload 4, 2) := by decide +kernel
theorem d_M_hold_92 : decode b_M_hold 92 = .ok (.bastore, 1) := by decide +kernel
theorem d_M_hold_93 : decode b_M_hold 93 = .ok (.aload_n 0, 1) := by decide +kernel
theorem d_M_hold_94 : decode b_M_hold 94 = .ok (.getfield 79, 3) := by decide +kernel
theorem d_M_hold_97 : decode b_M_hold 97 = .ok (.iload 5, 2) := by decide +kernel
theorem d_M_hold_99 : decode b_M_hold 99 = .ok (.iconst 0, 1) := by decide +kernel
theorem d_M_hold_100 : decode b_M_hold 100 = .ok (.bastore, 1) := by decide +kernel
theorem d_M_hold_101 : decode b_M_hold 101 = .ok (.aload_n 0, 1) := by decide +kernel
theorem d_M_hold_102 : decode b_M_hold 102 = .ok (.getfield 82, 3) := by decide +kernel
theorem d_M_hold_105 : decode b_M_hold 105 = .ok (.iload 5, 2) := by decide +kernel
theorem d_M_hold_107 : decode b_M_hold 107 = .ok (.iconst 0, 1) := by decide +kernel
theorem d_M_hold_108 : decode b_M_hold 108 = .ok (.bastore, 1) := by decide +kernel
theorem d_M_hold_109 : decode b_M_hold 109 = .ok (.aload_n 0, 1) := by decide +kernel
theorem d_M_hold_110 : decode b_M_hold 110 = .ok (.dup, 1) := by decide +kernel
theorem d_M_hold_111 : decode b_M_hold 111 = .ok (.getfield 166, 3) := by decide +kernel
theorem d_M_hold_114 : decode b_M_hold 114 = .ok (.iconst 1, 1) := by decide +kernel
theorem d_M_hold_115 : decode b_M_hold 115 = .ok (.iadd, 1) := by decide +kernel
theorem d_M_hold_116 : decode b_M_hold 116 = .ok (.putfield 166, 3) := by decide +kernel
theorem d_M_hold_119 : decode b_M_hold 119 = .ok (.return_, 1) := by decide +kernel
theorem d_M_beginNode_0 : decode b_M_beginNode 0 = .ok (.aload_n 0, 1) := by decide +kernel
theorem d_M_beginNode_1 : decode b_M_beginNode 1 = .ok (.getfield 7, 3) := by decide +kernel
theorem d_M_beginNode_4 : decode b_M_beginNode 4 = .ok (.iload_n 1, 1) := by decide +kernel
theorem d_M_beginNode_5 : decode b_M_beginNode 5 = .ok (.iaload, 1) := by decide +kernel
theorem d_M_beginNode_6 : decode b_M_beginNode 6 = .ok (.istore_n 2, 1) := by decide +kernel
theorem d_M_beginNode_7 : decode b_M_beginNode 7 = .ok (.iload_n 2, 1) := by decide +kernel
theorem d_M_beginNode_8 : decode b_M_beginNode 8 = .ok (.invokestatic 125, 3) := by decide +kernel
theorem d_M_beginNode_11 : decode b_M_beginNode 11 = .ok (.ifCond .eq (14), 3) := by decide +kernel
theorem d_M_beginNode_14 : decode b_M_beginNode 14 = .ok (.aload_n 0, 1) := by decide +kernel
theorem d_M_beginNode_15 : decode b_M_beginNode 15 = .ok (.getfield 198, 3) := by decide +kernel
theorem d_M_beginNode_18 : decode b_M_beginNode 18 = .ok (.ifCond .eq (7), 3) := by decide +kernel
theorem d_M_beginNode_21 : decode b_M_beginNode 21 = .ok (.aload_n 0, 1) := by decide +kernel
theorem d_M_beginNode_22 : decode b_M_beginNode 22 = .ok (.invokevirtual 210, 3) := by decide +kernel
theorem d_M_beginNode_25 : decode b_M_beginNode 25 = .ok (.iload_n 2, 1) := by decide +kernel
theorem d_M_beginNode_26 : decode b_M_beginNode 26 = .ok (.invokestatic 129, 3) := by decide +kernel
theorem d_M_beginNode_29 : decode b_M_beginNode 29 = .ok (.ifCond .eq (53), 3) := by decide +kernel
theorem d_M_beginNode_32 : decode b_M_beginNode 32 = .ok (.aload_n 0, 1) := by decide +kernel
theorem d_M_beginNode_33 : decode b_M_beginNode 33 = .ok (.getfield 198, 3) := by decide +kernel
theorem d_M_beginNode_36 : decode b_M_beginNode 36 = .ok (.ifCond .ne (46), 3) := by decide +kernel
theorem d_M_beginNode_39 : decode b_M_beginNode 39 = .ok (.aload_n 0, 1) := by decide +kernel
theorem d_M_beginNode_40 : decode b_M_beginNode 40 = .ok (.getfield 166, 3) := by decide +kernel
theorem d_M_beginNode_43 : decode b_M_beginNode 43 = .ok (.ifCond .le (39), 3) := by decide +kernel
theorem d_M_beginNode_46 : decode b_M_beginNode 46 = .ok (.aload_n 0, 1) := by decide +kernel
theorem d_M_beginNode_47 : decode b_M_beginNode 47 = .ok (.getfield 61, 3) := by decide +kernel
theorem d_M_beginNode_50 : decode b_M_beginNode 50 = .ok (.aload_n 0, 1) := by decide +kernel
theorem d_M_beginNode_51 : decode b_M_beginNode 51 = .ok (.getfield 166, 3) := by decide +kernel
theorem d_M_beginNode_54 : decode b_M_beginNode 54 = .ok (.iconst 1, 1) := by decide +kernel
theorem d_M_beginNode_55 : decode b_M_beginNode 55 = .ok (.isub, 1) := by decide +kernel
theorem d_M_beginNode_56 : decode b_M_beginNode 56 = .ok (.iaload, 1) := by decide +kernel
theorem d_M_beginNode_57 : decode b_M_beginNode 57 = .ok (.bipush (7), 2) := by decide +kernel
theorem d_M_beginNode_59 : decode b_M_beginNode 59 = .ok (.if_icmp .ne (23), 3) := by decide +kernel
theorem d_M_beginNode_62 : decode b_M_beginNode 62 = .ok (.aload_n 0, 1) := by decide +kernel
theorem d_M_beginNode_63 : decode b_M_beginNode 63 = .ok (.getfield 7, 3) := by decide +kernel
theorem d_M_beginNode_66 : decode b_M_beginNode 66 = .ok (.aload_n 0, 1) := by decide +kernel
theorem d_M_beginNode_67 : decode b_M_beginNode 67 = .ok (.getfield 13, 3) := by decide +kernel
theorem d_M_beginNode_70 : decode b_M_beginNode 70 = .ok (.iload_n 1, 1) := by decide +kernel
theorem d_M_beginNode_71 : decode b_M_beginNode 71 = .ok (.iaload, 1) := by decide +kernel
theorem d_M_beginNode_72 : decode b_M_beginNode 72 = .ok (.iaload, 1) := by decide +kernel
theorem d_M_beginNode_73 : decode b_M_beginNode 73 = .ok (.bipush (7), 2) := by decide +kernel
theorem d_M_beginNode_75 : decode b_M_beginNode 75 = .ok (.if_icmp .ne (7), 3) := by decide +kernel
theorem d_M_beginNode_78 : decode b_M_beginNode 78 = .ok (.aload_n 0, 1) := by decide +kernel
theorem d_M_beginNode_79 : decode b_M_beginNode 79 = .ok (.invokevirtual 204, 3) := by decide +kernel
theorem d_M_beginNode_82 : decode b_M_beginNode 82 = .ok (.aload_n 0, 1) := by decide +kernel
theorem d_M_beginNode_83 : decode b_M_beginNode 83 = .ok (.getfield 166, 3) := by decide +kernel
theorem d_M_beginNode_86 : decode b_M_beginNode 86 = .ok (.ifCond .le (17), 3) := by decide +kernel
theorem d_M_beginNode_89 : decode b_M_beginNode 89 = .ok (.aload_n 0, 1) := by decide +kernel
theorem d_M_beginNode_90 : decode b_M_beginNode 90 = .ok (.getfield 64, 3) := by decide +kernel
