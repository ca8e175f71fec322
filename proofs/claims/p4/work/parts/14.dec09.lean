theorem d_S_layCode_56 : decode b_S_layCode 56 = .ok (.iload 4, 2) := by decide +kernel
theorem d_S_layCode_58 : decode b_S_layCode 58 = .ok (.invokevirtual 119, 3) := by decide +kernel
theorem d_S_layCode_61 : decode b_S_layCode 61 = .ok (.iinc 3 (1), 3) := by decide +kernel
theorem d_S_layCode_64 : decode b_S_layCode 64 = .ok (.goto (-59), 3) := by decide +kernel
theorem d_S_layCode_67 : decode b_S_layCode 67 = .ok (.aload_n 0, 1) := by decide +kernel
theorem d_S_layCode_68 : decode b_S_layCode 68 = .ok (.getfield 34, 3) := by decide +kernel
theorem d_S_layCode_71 : decode b_S_layCode 71 = .ok (.invokevirtual 129, 3) := by decide +kernel
theorem d_S_layCode_74 : decode b_S_layCode 74 = .ok (.ifCond .le (7), 3) := by decide +kernel
theorem d_S_layCode_77 : decode b_S_layCode 77 = .ok (.aload_n 0, 1) := by decide +kernel
theorem d_S_layCode_78 : decode b_S_layCode 78 = .ok (.invokevirtual 122, 3) := by decide +kernel
theorem d_S_layCode_81 : decode b_S_layCode 81 = .ok (.return_, 1) := by decide +kernel
theorem d_S_layQuote_0 : decode b_S_layQuote 0 = .ok (.aload_n 0, 1) := by decide +kernel
theorem d_S_layQuote_1 : decode b_S_layQuote 1 = .ok (.getfield 25, 3) := by decide +kernel
theorem d_S_layQuote_4 : decode b_S_layQuote 4 = .ok (.invokevirtual 129, 3) := by decide +kernel
theorem d_S_layQuote_7 : decode b_S_layQuote 7 = .ok (.istore_n 3, 1) := by decide +kernel
theorem d_S_layQuote_8 : decode b_S_layQuote 8 = .ok (.aload_n 0, 1) := by decide +kernel
theorem d_S_layQuote_9 : decode b_S_layQuote 9 = .ok (.bipush (62), 2) := by decide +kernel
theorem d_S_layQuote_11 : decode b_S_layQuote 11 = .ok (.bipush (62), 2) := by decide +kernel
theorem d_S_layQuote_13 : decode b_S_layQuote 13 = .ok (.invokevirtual 132, 3) := by decide +kernel
theorem d_S_layQuote_16 : decode b_S_layQuote 16 = .ok (.aload_n 0, 1) := by decide +kernel
theorem d_S_layQuote_17 : decode b_S_layQuote 17 = .ok (.bipush (32), 2) := by decide +kernel
theorem d_S_layQuote_19 : decode b_S_layQuote 19 = .ok (.bipush (32), 2) := by decide +kernel
theorem d_S_layQuote_21 : decode b_S_layQuote 21 = .ok (.invokevirtual 132, 3) := by decide +kernel
theorem d_S_layQuote_24 : decode b_S_layQuote 24 = .ok (.aload_n 0, 1) := by decide +kernel
theorem d_S_layQuote_25 : decode b_S_layQuote 25 = .ok (.aload_n 1, 1) := by decide +kernel
theorem d_S_layQuote_26 : decode b_S_layQuote 26 = .ok (.iload_n 2, 1) := by decide +kernel
theorem d_S_layQuote_27 : decode b_S_layQuote 27 = .ok (.iconst 2, 1) := by decide +kernel
theorem d_S_layQuote_28 : decode b_S_layQuote 28 = .ok (.invokestatic 135, 3) := by decide +kernel
theorem d_S_layQuote_31 : decode b_S_layQuote 31 = .ok (.invokevirtual 139, 3) := by decide +kernel
theorem d_S_layQuote_34 : decode b_S_layQuote 34 = .ok (.aload_n 0, 1) := by decide +kernel
theorem d_S_layQuote_35 : decode b_S_layQuote 35 = .ok (.iload_n 3, 1) := by decide +kernel
theorem d_S_layQuote_36 : decode b_S_layQuote 36 = .ok (.invokevirtual 142, 3) := by decide +kernel
theorem d_S_layQuote_39 : decode b_S_layQuote 39 = .ok (.return_, 1) := by decide +kernel
theorem d_S_layItems_0 : decode b_S_layItems 0 = .ok (.iconst 0, 1) := by decide +kernel
theorem d_S_layItems_1 : decode b_S_layItems 1 = .ok (.istore_n 3, 1) := by decide +kernel
theorem d_S_layItems_2 : decode b_S_layItems 2 = .ok (.aload_n 1, 1) := by decide +kernel
theorem d_S_layItems_3 : decode b_S_layItems 3 = .ok (.getfield 51, 3) := by decide +kernel
theorem d_S_layItems_6 : decode b_S_layItems 6 = .ok (.astore 4, 2) := by decide +kernel
theorem d_S_layItems_8 : decode b_S_layItems 8 = .ok (.aload 4, 2) := by decide +kernel
theorem d_S_layItems_10 : decode b_S_layItems 10 = .ok (.ifnull (32), 3) := by decide +kernel
theorem d_S_layItems_13 : decode b_S_layItems 13 = .ok (.iload_n 3, 1) := by decide +kernel
theorem d_S_layItems_14 : decode b_S_layItems 14 = .ok (.ifCond .ne (12), 3) := by decide +kernel
theorem d_S_layItems_17 : decode b_S_layItems 17 = .ok (.aload_n 0, 1) := by decide +kernel
theorem d_S_layItems_18 : decode b_S_layItems 18 = .ok (.aload 4, 2) := by decide +kernel
theorem d_S_layItems_20 : decode b_S_layItems 20 = .ok (.invokevirtual 47, 3) := by decide +kernel
theorem d_S_layItems_23 : decode b_S_layItems 23 = .ok (.ifCond .eq (7), 3) := by decide +kernel
theorem d_S_layItems_26 : decode b_S_layItems 26 = .ok (.iconst 1, 1) := by decide +kernel
theorem d_S_layItems_27 : decode b_S_layItems 27 = .ok (.goto (4), 3) := by decide +kernel
theorem d_S_layItems_30 : decode b_S_layItems 30 = .ok (.iconst 0, 1) := by decide +kernel
theorem d_S_layItems_31 : decode b_S_layItems 31 = .ok (.istore_n 3, 1) := by decide +kernel
theorem d_S_layItems_32 : decode b_S_layItems 32 = .ok (.aload 4, 2) := by decide +kernel
theorem d_S_layItems_34 : decode b_S_layItems 34 = .ok (.getfield 70, 3) := by decide +kernel
theorem d_S_layItems_37 : decode b_S_layItems 37 = .ok (.astore 4, 2) := by decide +kernel
theorem d_S_layItems_39 : decode b_S_layItems 39 = .ok (.goto (-31), 3) := by decide +kernel
theorem d_S_layItems_42 : decode b_S_layItems 42 = .ok (.aload_n 1, 1) := by decide +kernel
theorem d_S_layItems_43 : decode b_S_layItems 43 = .ok (.getfield 76, 3) := by decide +kernel
theorem d_S_layItems_46 : decode b_S_layItems 46 = .ok (.istore 4, 2) := by decide +kernel
theorem d_S_layItems_48 : decode b_S_layItems 48 = .ok (.aload_n 1, 1) := by decide +kernel
theorem d_S_layItems_49 : decode b_S_layItems 49 = .ok (.getfield 51, 3) := by decide +kernel
theorem d_S_layItems_52 : decode b_S_layItems 52 = .ok (.astore 5, 2) := by decide +kernel
theorem d_S_layItems_54 : decode b_S_layItems 54 = .ok (.aload 5, 2) := by decide +kernel
theorem d_S_layItems_56 : decode b_S_layItems 56 = .ok (.ifnull (110), 3) := by decide +kernel
theorem d_S_layItems_59 : decode b_S_layItems 59 = .ok (.iload_n 3, 1) := by decide +kernel
theorem d_S_layItems_60 : decode b_S_layItems 60 = .ok (.ifCond .eq (16), 3) := by decide +kernel
theorem d_S_layItems_63 : decode b_S_layItems 63 = .ok (.aload 5, 2) := by decide +kernel
theorem d_S_layItems_65 : decode b_S_layItems 65 = .ok (.aload_n 1, 1) := by decide +kernel
theorem d_S_layItems_66 : decode b_S_layItems 66 = .ok (.getfield 51, 3) := by decide +kernel
theorem d_S_layItems_69 : decode b_S_layItems 69 = .ok (.if_acmp .eq (7), 3) := by decide +kernel
theorem d_S_layItems_72 : decode b_S_layItems 72 = .ok (.aload_n 0, 1) := by decide +kernel
theorem d_S_layItems_73 : decode b_S_layItems 73 = .ok (.invokevirtual 63, 3) := by decide +kernel
theorem d_S_layItems_76 : decode b_S_layItems 76 = .ok (.aload_n 0, 1) := by decide +kernel
theorem d_S_layItems_77 : decode b_S_layItems 77 = .ok (.getfield 21, 3) := by decide +kernel
theorem d_S_layItems_80 : decode b_S_layItems 80 = .ok (.invokevirtual 37, 3) := by decide +kernel
theorem d_S_layItems_83 : decode b_S_layItems 83 = .ok (.istore 6, 2) := by decide +kernel
theorem d_S_layItems_85 : decode b_S_layItems 85 = .ok (.aload_n 0, 1) := by decide +kernel
theorem d_S_layItems_86 : decode b_S_layItems 86 = .ok (.getfield 25, 3) := by decide +kernel
theorem d_S_layItems_89 : decode b_S_layItems 89 = .ok (.invokevirtual 129, 3) := by decide +kernel
theorem d_S_layItems_92 : decode b_S_layItems 92 = .ok (.istore 7, 2) := by decide +kernel
theorem d_S_layItems_94 : decode b_S_layItems 94 = .ok (.aload 5, 2) := by decide +kernel
theorem d_S_layItems_96 : decode b_S_layItems 96 = .ok (.iload 6, 2) := by decide +kernel
theorem d_S_layItems_98 : decode b_S_layItems 98 = .ok (.putfield 73, 3) := by decide +kernel
theorem d_S_layItems_101 : decode b_S_layItems 101 = .ok (.aload_n 0, 1) := by decide +kernel
theorem d_S_layItems_102 : decode b_S_layItems 102 = .ok (.aload_n 1, 1) := by decide +kernel
theorem d_S_layItems_103 : decode b_S_layItems 103 = .ok (.getfield 41, 3) := by decide +kernel
theorem d_S_layItems_106 : decode b_S_layItems 106 = .ok (.iload 4, 2) := by decide +kernel
theorem d_S_layItems_108 : decode b_S_layItems 108 = .ok (.invokevirtual 145, 3) := by decide +kernel
theorem d_S_layItems_111 : decode b_S_layItems 111 = .ok (.aload_n 0, 1) := by decide +kernel
theorem d_S_layItems_112 : decode b_S_layItems 112 = .ok (.aload 5, 2) := by decide +kernel
theorem d_S_layItems_114 : decode b_S_layItems 114 = .ok (.iload_n 2, 1) := by decide +kernel
theorem d_S_layItems_115 : decode b_S_layItems 115 = .ok (.aload_n 0, 1) := by decide +kernel
theorem d_S_layItems_116 : decode b_S_layItems 116 = .ok (.getfield 25, 3) := by decide +kernel
theorem d_S_layItems_119 : decode b_S_layItems 119 = .ok (.invokevirtual 129, 3) := by decide +kernel
theorem d_S_layItems_122 : decode b_S_layItems 122 = .ok (.iload 7, 2) := by decide +kernel
theorem d_S_layItems_124 : decode b_S_layItems 124 = .ok (.isub, 1) := by decide +kernel
theorem d_S_layItems_125 : decode b_S_layItems 125 = .ok (.invokestatic 135, 3) := by decide +kernel
theorem d_S_layItems_128 : decode b_S_layItems 128 = .ok (.invokevirtual 139, 3) := by decide +kernel
theorem d_S_layItems_131 : decode b_S_layItems 131 = .ok (.aload_n 0, 1) := by decide +kernel
theorem d_S_layItems_132 : decode b_S_layItems 132 = .ok (.getfield 21, 3) := by decide +kernel
theorem d_S_layItems_135 : decode b_S_layItems 135 = .ok (.invokevirtual 37, 3) := by decide +kernel
theorem d_S_layItems_138 : decode b_S_layItems 138 = .ok (.iload 6, 2) := by decide +kernel
theorem d_S_layItems_140 : decode b_S_layItems 140 = .ok (.if_icmp .ne (7), 3) := by decide +kernel
theorem d_S_layItems_143 : decode b_S_layItems 143 = .ok (.aload_n 0, 1) := by decide +kernel
theorem d_S_layItems_144 : decode b_S_layItems 144 = .ok (.invokevirtual 122, 3) := by decide +kernel
theorem d_S_layItems_147 : decode b_S_layItems 147 = .ok (.aload_n 0, 1) := by decide +kernel
theorem d_S_layItems_148 : decode b_S_layItems 148 = .ok (.iload 7, 2) := by decide +kernel
theorem d_S_layItems_150 : decode b_S_layItems 150 = .ok (.invokevirtual 142, 3) := by decide +kernel
theorem d_S_layItems_153 : decode b_S_layItems 153 = .ok (.iinc 4 (1), 3) := by decide +kernel
theorem d_S_layItems_156 : decode b_S_layItems 156 = .ok (.aload 5, 2) := by decide +kernel
theorem d_S_layItems_158 : decode b_S_layItems 158 = .ok (.getfield 70, 3) := by decide +kernel
theorem d_S_layItems_161 : decode b_S_layItems 161 = .ok (.astore 5, 2) := by decide +kernel
theorem d_S_layItems_163 : decode b_S_layItems 163 = .ok (.goto (-109), 3) := by decide +kernel
theorem d_S_layItems_166 : decode b_S_layItems 166 = .ok (.return_, 1) := by decide +kernel
theorem d_S_layWords_0 : decode b_S_layWords 0 = .ok (.iload_n 1, 1) := by decide +kernel
theorem d_S_layWords_1 : decode b_S_layWords 1 = .ok (.istore 4, 2) := by decide +kernel
theorem d_S_layWords_3 : decode b_S_layWords 3 = .ok (.iload 4, 2) := by decide +kernel
theorem d_S_layWords_5 : decode b_S_layWords 5 = .ok (.iload_n 2, 1) := by decide +kernel
theorem d_S_layWords_6 : decode b_S_layWords 6 = .ok (.if_icmp .ge (63), 3) := by decide +kernel
theorem d_S_layWords_9 : decode b_S_layWords 9 = .ok (.aload_n 0, 1) := by decide +kernel
theorem d_S_layWords_10 : decode b_S_layWords 10 = .ok (.getfield 12, 3) := by decide +kernel
theorem d_S_layWords_13 : decode b_S_layWords 13 = .ok (.iload 4, 2) := by decide +kernel
theorem d_S_layWords_15 : decode b_S_layWords 15 = .ok (.invokevirtual 125, 3) := by decide +kernel
theorem d_S_layWords_18 : decode b_S_layWords 18 = .ok (.istore 5, 2) := by decide +kernel
theorem d_S_layWords_20 : decode b_S_layWords 20 = .ok (.iload 5, 2) := by decide +kernel
theorem d_S_layWords_22 : decode b_S_layWords 22 = .ok (.sipush (256), 3) := by decide +kernel
theorem d_S_layWords_25 : decode b_S_layWords 25 = .ok (.if_icmp .ne (15), 3) := by decide +kernel
theorem d_S_layWords_28 : decode b_S_layWords 28 = .ok (.aload_n 0, 1) := by decide +kernel
theorem d_S_layWords_29 : decode b_S_layWords 29 = .ok (.iload_n 3, 1) := by decide +kernel
theorem d_S_layWords_30 : decode b_S_layWords 30 = .ok (.invokevirtual 116, 3) := by decide +kernel
theorem d_S_layWords_33 : decode b_S_layWords 33 = .ok (.aload_n 0, 1) := by decide +kernel
theorem d_S_layWords_34 : decode b_S_layWords 34 = .ok (.invokevirtual 122, 3) := by decide +kernel
theorem d_S_layWords_37 : decode b_S_layWords 37 = .ok (.goto (26), 3) := by decide +kernel
theorem d_S_layWords_40 : decode b_S_layWords 40 = .ok (.iload 5, 2) := by decide +kernel
theorem d_S_layWords_42 : decode b_S_layWords 42 = .ok (.invokestatic 148, 3) := by decide +kernel
theorem d_S_layWords_45 : decode b_S_layWords 45 = .ok (.ifCond .eq (11), 3) := by decide +kernel
theorem d_S_layWords_48 : decode b_S_layWords 48 = .ok (.aload_n 0, 1) := by decide +kernel
theorem d_S_layWords_49 : decode b_S_layWords 49 = .ok (.iload_n 3, 1) := by decide +kernel
theorem d_S_layWords_50 : decode b_S_layWords 50 = .ok (.invokevirtual 116, 3) := by decide +kernel
theorem d_S_layWords_53 : decode b_S_layWords 53 = .ok (.goto (10), 3) := by decide +kernel
theorem d_S_layWords_56 : decode b_S_layWords 56 = .ok (.aload_n 0, 1) := by decide +kernel
theorem d_S_layWords_57 : decode b_S_layWords 57 = .ok (.iload 5, 2) := by decide +kernel
theorem d_S_layWords_59 : decode b_S_layWords 59 = .ok (.iload_n 3, 1) := by decide +kernel
theorem d_S_layWords_60 : decode b_S_layWords 60 = .ok (.invokevirtual 113, 3) := by decide +kernel
theorem d_S_layWords_63 : decode b_S_layWords 63 = .ok (.iinc 4 (1), 3) := by decide +kernel
theorem d_S_layWords_66 : decode b_S_layWords 66 = .ok (.goto (-63), 3) := by decide +kernel
theorem d_S_layWords_69 : decode b_S_layWords 69 = .ok (.aload_n 0, 1) := by decide +kernel
theorem d_S_layWords_70 : decode b_S_layWords 70 = .ok (.iload_n 3, 1) := by decide +kernel
theorem d_S_layWords_71 : decode b_S_layWords 71 = .ok (.invokevirtual 116, 3) := by decide +kernel
theorem d_S_layWords_74 : decode b_S_layWords 74 = .ok (.aload_n 0, 1) := by decide +kernel
theorem d_S_layWords_75 : decode b_S_layWords 75 = .ok (.getfield 34, 3) := by decide +kernel
theorem d_S_layWords_78 : decode b_S_layWords 78 = .ok (.invokevirtual 129, 3) := by decide +kernel
theorem d_S_layWords_81 : decode b_S_layWords 81 = .ok (.ifCond .le (7), 3) := by decide +kernel
theorem d_S_layWords_84 : decode b_S_layWords 84 = .ok (.aload_n 0, 1) := by decide +kernel
theorem d_S_layWords_85 : decode b_S_layWords 85 = .ok (.invokevirtual 122, 3) := by decide +kernel
theorem d_S_layWords_88 : decode b_S_layWords 88 = .ok (.return_, 1) := by decide +kernel
theorem d_S_addLetter_0 : decode b_S_addLetter 0 = .ok (.aload_n 0, 1) := by decide +kernel
theorem d_S_addLetter_1 : decode b_S_addLetter 1 = .ok (.getfield 31, 3) := by decide +kernel
theorem d_S_addLetter_4 : decode b_S_addLetter 4 = .ok (.invokevirtual 129, 3) := by decide +kernel
theorem d_S_addLetter_7 : decode b_S_addLetter 7 = .ok (.iload_n 2, 1) := by decide +kernel
theorem d_S_addLetter_8 : decode b_S_addLetter 8 = .ok (.if_icmp .lt (36), 3) := by decide +kernel
theorem d_S_addLetter_11 : decode b_S_addLetter 11 = .ok (.aload_n 0, 1) := by decide +kernel
theorem d_S_addLetter_12 : decode b_S_addLetter 12 = .ok (.getfield 34, 3) := by decide +kernel
theorem d_S_addLetter_15 : decode b_S_addLetter 15 = .ok (.invokevirtual 129, 3) := by decide +kernel
theorem d_S_addLetter_18 : decode b_S_addLetter 18 = .ok (.ifCond .le (7), 3) := by decide +kernel
theorem d_S_addLetter_21 : decode b_S_addLetter 21 = .ok (.aload_n 0, 1) := by decide +kernel
theorem d_S_addLetter_22 : decode b_S_addLetter 22 = .ok (.invokevirtual 122, 3) := by decide +kernel
theorem d_S_addLetter_25 : decode b_S_addLetter 25 = .ok (.aload_n 0, 1) := by decide +kernel
theorem d_S_addLetter_26 : decode b_S_addLetter 26 = .ok (.getfield 34, 3) := by decide +kernel
theorem d_S_addLetter_29 : decode b_S_addLetter 29 = .ok (.aload_n 0, 1) := by decide +kernel
theorem d_S_addLetter_30 : decode b_S_addLetter 30 = .ok (.getfield 31, 3) := by decide +kernel
theorem d_S_addLetter_33 : decode b_S_addLetter 33 = .ok (.invokevirtual 152, 3) := by decide +kernel
theorem d_S_addLetter_36 : decode b_S_addLetter 36 = .ok (.aload_n 0, 1) := by decide +kernel
theorem d_S_addLetter_37 : decode b_S_addLetter 37 = .ok (.getfield 31, 3) := by decide +kernel
theorem d_S_addLetter_40 : decode b_S_addLetter 40 = .ok (.iconst 0, 1) := by decide +kernel
theorem d_S_addLetter_41 : decode b_S_addLetter 41 = .ok (.invokevirtual 156, 3) := by decide +kernel
theorem d_S_addLetter_44 : decode b_S_addLetter 44 = .ok (.aload_n 0, 1) := by decide +kernel
theorem d_S_addLetter_45 : decode b_S_addLetter 45 = .ok (.getfield 31, 3) := by decide +kernel
theorem d_S_addLetter_48 : decode b_S_addLetter 48 = .ok (.iload_n 1, 1) := by decide +kernel
theorem d_S_addLetter_49 : decode b_S_addLetter 49 = .ok (.invokevirtual 119, 3) := by decide +kernel
theorem d_S_addLetter_52 : decode b_S_addLetter 52 = .ok (.return_, 1) := by decide +kernel
theorem d_S_endWord_0 : decode b_S_endWord 0 = .ok (.aload_n 0, 1) := by decide +kernel
theorem d_S_endWord_1 : decode b_S_endWord 1 = .ok (.getfield 31, 3) := by decide +kernel
theorem d_S_endWord_4 : decode b_S_endWord 4 = .ok (.invokevirtual 129, 3) := by decide +kernel
theorem d_S_endWord_7 : decode b_S_endWord 7 = .ok (.ifCond .ne (4), 3) := by decide +kernel
theorem d_S_endWord_10 : decode b_S_endWord 10 = .ok (.return_, 1) := by decide +kernel
theorem d_S_endWord_11 : decode b_S_endWord 11 = .ok (.aload_n 0, 1) := by decide +kernel
theorem d_S_endWord_12 : decode b_S_endWord 12 = .ok (.getfield 34, 3) := by decide +kernel
theorem d_S_endWord_15 : decode b_S_endWord 15 = .ok (.invokevirtual 129, 3) := by decide +kernel
theorem d_S_endWord_18 : decode b_S_endWord 18 = .ok (.ifCond .le (28), 3) := by decide +kernel
theorem d_S_endWord_21 : decode b_S_endWord 21 = .ok (.aload_n 0, 1) := by decide +kernel
theorem d_S_endWord_22 : decode b_S_endWord 22 = .ok (.getfield 34, 3) := by decide +kernel
theorem d_S_endWord_25 : decode b_S_endWord 25 = .ok (.invokevirtual 129, 3) := by decide +kernel
theorem d_S_endWord_28 : decode b_S_endWord 28 = .ok (.iconst 1, 1) := by decide +kernel
theorem d_S_endWord_29 : decode b_S_endWord 29 = .ok (.iadd, 1) := by decide +kernel
theorem d_S_endWord_30 : decode b_S_endWord 30 = .ok (.aload_n 0, 1) := by decide +kernel
theorem d_S_endWord_31 : decode b_S_endWord 31 = .ok (.getfield 31, 3) := by decide +kernel
theorem d_S_endWord_34 : decode b_S_endWord 34 = .ok (.invokevirtual 129, 3) := by decide +kernel
theorem d_S_endWord_37 : decode b_S_endWord 37 = .ok (.iadd, 1) := by decide +kernel
theorem d_S_endWord_38 : decode b_S_endWord 38 = .ok (.iload_n 1, 1) := by decide +kernel
theorem d_S_endWord_39 : decode b_S_endWord 39 = .ok (.if_icmp .le (7), 3) := by decide +kernel
theorem d_S_endWord_42 : decode b_S_endWord 42 = .ok (.aload_n 0, 1) := by decide +kernel
theorem d_S_endWord_43 : decode b_S_endWord 43 = .ok (.invokevirtual 122, 3) := by decide +kernel
theorem d_S_endWord_46 : decode b_S_endWord 46 = .ok (.aload_n 0, 1) := by decide +kernel
theorem d_S_endWord_47 : decode b_S_endWord 47 = .ok (.getfield 34, 3) := by decide +kernel
theorem d_S_endWord_50 : decode b_S_endWord 50 = .ok (.invokevirtual 129, 3) := by decide +kernel
theorem d_S_endWord_53 : decode b_S_endWord 53 = .ok (.ifCond .le (12), 3) := by decide +kernel
theorem d_S_endWord_56 : decode b_S_endWord 56 = .ok (.aload_n 0, 1) := by decide +kernel
theorem d_S_endWord_57 : decode b_S_endWord 57 = .ok (.getfield 34, 3) := by decide +kernel
theorem d_S_endWord_60 : decode b_S_endWord 60 = .ok (.bipush (32), 2) := by decide +kernel
theorem d_S_endWord_62 : decode b_S_endWord 62 = .ok (.invokevirtual 119, 3) := by decide +kernel
theorem d_S_endWord_65 : decode b_S_endWord 65 = .ok (.aload_n 0, 1) := by decide +kernel
theorem d_S_endWord_66 : decode b_S_endWord 66 = .ok (.getfield 34, 3) := by decide +kernel
theorem d_S_endWord_69 : decode b_S_endWord 69 = .ok (.aload_n 0, 1) := by decide +kernel
theorem d_S_endWord_70 : decode b_S_endWord 70 = .ok (.getfield 31, 3) := by decide +kernel
theorem d_S_endWord_73 : decode b_S_endWord 73 = .ok (.invokevirtual 152, 3) := by decide +kernel
theorem d_S_endWord_76 : decode b_S_endWord 76 = .ok (.aload_n 0, 1) := by decide +kernel
theorem d_S_endWord_77 : decode b_S_endWord 77 = .ok (.getfield 31, 3) := by decide +kernel
theorem d_S_endWord_80 : decode b_S_endWord 80 = .ok (.iconst 0, 1) := by decide +kernel
theorem d_S_endWord_81 : decode b_S_endWord 81 = .ok (.invokevirtual 156, 3) := by decide +kernel
theorem d_S_endWord_84 : decode b_S_endWord 84 = .ok (.return_, 1) := by decide +kernel
theorem d_S_putLine_0 : decode b_S_putLine 0 = .ok (.aload_n 0, 1) := by decide +kernel
theorem d_S_putLine_1 : decode b_S_putLine 1 = .ok (.getfield 21, 3) := by decide +kernel
theorem d_S_putLine_4 : decode b_S_putLine 4 = .ok (.aload_n 0, 1) := by decide +kernel
theorem d_S_putLine_5 : decode b_S_putLine 5 = .ok (.getfield 25, 3) := by decide +kernel
theorem d_S_putLine_8 : decode b_S_putLine 8 = .ok (.aload_n 0, 1) := by decide +kernel
theorem d_S_putLine_9 : decode b_S_putLine 9 = .ok (.getfield 34, 3) := by decide +kernel
theorem d_S_putLine_12 : decode b_S_putLine 12 = .ok (.iconst 0, 1) := by decide +kernel
theorem d_S_putLine_13 : decode b_S_putLine 13 = .ok (.invokevirtual 159, 3) := by decide +kernel
theorem d_S_putLine_16 : decode b_S_putLine 16 = .ok (.aload_n 0, 1) := by decide +kernel
theorem d_S_putLine_17 : decode b_S_putLine 17 = .ok (.getfield 34, 3) := by decide +kernel
theorem d_S_putLine_20 : decode b_S_putLine 20 = .ok (.iconst 0, 1) := by decide +kernel
theorem d_S_putLine_21 : decode b_S_putLine 21 = .ok (.invokevirtual 156, 3) := by decide +kernel
theorem d_S_putLine_24 : decode b_S_putLine 24 = .ok (.iconst 0, 1) := by decide +kernel
theorem d_S_putLine_25 : decode b_S_putLine 25 = .ok (.istore_n 1, 1) := by decide +kernel
theorem d_S_putLine_26 : decode b_S_putLine 26 = .ok (.iload_n 1, 1) := by decide +kernel
theorem d_S_putLine_27 : decode b_S_putLine 27 = .ok (.aload_n 0, 1) := by decide +kernel
theorem d_S_putLine_28 : decode b_S_putLine 28 = .ok (.getfield 25, 3) := by decide +kernel
theorem d_S_putLine_31 : decode b_S_putLine 31 = .ok (.invokevirtual 129, 3) := by decide +kernel
theorem d_S_putLine_34 : decode b_S_putLine 34 = .ok (.if_icmp .ge (25), 3) := by decide +kernel
theorem d_S_putLine_37 : decode b_S_putLine 37 = .ok (.aload_n 0, 1) := by decide +kernel
theorem d_S_putLine_38 : decode b_S_putLine 38 = .ok (.getfield 25, 3) := by decide +kernel
theorem d_S_putLine_41 : decode b_S_putLine 41 = .ok (.iload_n 1, 1) := by decide +kernel
theorem d_S_putLine_42 : decode b_S_putLine 42 = .ok (.aload_n 0, 1) := by decide +kernel
theorem d_S_putLine_43 : decode b_S_putLine 43 = .ok (.getfield 28, 3) := by decide +kernel
theorem d_S_putLine_46 : decode b_S_putLine 46 = .ok (.iload_n 1, 1) := by decide +kernel
theorem d_S_putLine_47 : decode b_S_putLine 47 = .ok (.invokevirtual 125, 3) := by decide +kernel
theorem d_S_putLine_50 : decode b_S_putLine 50 = .ok (.invokevirtual 96, 3) := by decide +kernel
theorem d_S_putLine_53 : decode b_S_putLine 53 = .ok (.iinc 1 (1), 3) := by decide +kernel
theorem d_S_putLine_56 : decode b_S_putLine 56 = .ok (.goto (-30), 3) := by decide +kernel
theorem d_S_putLine_59 : decode b_S_putLine 59 = .ok (.return_, 1) := by decide +kernel
theorem d_S_putBetween_0 : decode b_S_putBetween 0 = .ok (.aload_n 0, 1) := by decide +kernel
theorem d_S_putBetween_1 : decode b_S_putBetween 1 = .ok (.getfield 21, 3) := by decide +kernel
theorem d_S_putBetween_4 : decode b_S_putBetween 4 = .ok (.aload_n 0, 1) := by decide +kernel
theorem d_S_putBetween_5 : decode b_S_putBetween 5 = .ok (.getfield 25, 3) := by decide +kernel
theorem d_S_putBetween_8 : decode b_S_putBetween 8 = .ok (.aload_n 0, 1) := by decide +kernel
theorem d_S_putBetween_9 : decode b_S_putBetween 9 = .ok (.getfield 34, 3) := by decide +kernel
theorem d_S_putBetween_12 : decode b_S_putBetween 12 = .ok (.iconst 1, 1) := by decide +kernel
theorem d_S_putBetween_13 : decode b_S_putBetween 13 = .ok (.invokevirtual 159, 3) := by decide +kernel
theorem d_S_putBetween_16 : decode b_S_putBetween 16 = .ok (.return_, 1) := by decide +kernel
theorem d_S_addSign_0 : decode b_S_addSign 0 = .ok (.iload_n 1, 1) := by decide +kernel
theorem d_S_addSign_1 : decode b_S_addSign 1 = .ok (.iconst 5, 1) := by decide +kernel
theorem d_S_addSign_2 : decode b_S_addSign 2 = .ok (.if_icmp .ne (14), 3) := by decide +kernel
theorem d_S_addSign_5 : decode b_S_addSign 5 = .ok (.aload_n 0, 1) := by decide +kernel
theorem d_S_addSign_6 : decode b_S_addSign 6 = .ok (.bipush (42), 2) := by decide +kernel
theorem d_S_addSign_8 : decode b_S_addSign 8 = .ok (.bipush (32), 2) := by decide +kernel
theorem d_S_addSign_10 : decode b_S_addSign 10 = .ok (.invokevirtual 132, 3) := by decide +kernel
theorem d_S_addSign_13 : decode b_S_addSign 13 = .ok (.goto (16), 3) := by decide +kernel
theorem d_S_addSign_16 : decode b_S_addSign 16 = .ok (.aload_n 0, 1) := by decide +kernel
theorem d_S_addSign_17 : decode b_S_addSign 17 = .ok (.iload_n 2, 1) := by decide +kernel
theorem d_S_addSign_18 : decode b_S_addSign 18 = .ok (.invokevirtual 163, 3) := by decide +kernel
theorem d_S_addSign_21 : decode b_S_addSign 21 = .ok (.aload_n 0, 1) := by decide +kernel
theorem d_S_addSign_22 : decode b_S_addSign 22 = .ok (.bipush (46), 2) := by decide +kernel
theorem d_S_addSign_24 : decode b_S_addSign 24 = .ok (.bipush (32), 2) := by decide +kernel
theorem d_S_addSign_26 : decode b_S_addSign 26 = .ok (.invokevirtual 132, 3) := by decide +kernel
theorem d_S_addSign_29 : decode b_S_addSign 29 = .ok (.aload_n 0, 1) := by decide +kernel
theorem d_S_addSign_30 : decode b_S_addSign 30 = .ok (.bipush (32), 2) := by decide +kernel
theorem d_S_addSign_32 : decode b_S_addSign 32 = .ok (.bipush (32), 2) := by decide +kernel
theorem d_S_addSign_34 : decode b_S_addSign 34 = .ok (.invokevirtual 132, 3) := by decide +kernel
theorem d_S_addSign_37 : decode b_S_addSign 37 = .ok (.return_, 1) := by decide +kernel
theorem d_S_addDigits_0 : decode b_S_addDigits 0 = .ok (.ldc 166, 2) := by decide +kernel
theorem d_S_addDigits_2 : decode b_S_addDigits 2 = .ok (.istore_n 2, 1) := by decide +kernel
theorem d_S_addDigits_3 : decode b_S_addDigits 3 = .ok (.iload_n 2, 1) := by decide +kernel
theorem d_S_addDigits_4 : decode b_S_addDigits 4 = .ok (.iconst 1, 1) := by decide +kernel
theorem d_S_addDigits_5 : decode b_S_addDigits 5 = .ok (.if_icmp .le (16), 3) := by decide +kernel
theorem d_S_addDigits_8 : decode b_S_addDigits 8 = .ok (.iload_n 2, 1) := by decide +kernel
theorem d_S_addDigits_9 : decode b_S_addDigits 9 = .ok (.iload_n 1, 1) := by decide +kernel
theorem d_S_addDigits_10 : decode b_S_addDigits 10 = .ok (.if_icmp .le (11), 3) := by decide +kernel
theorem d_S_addDigits_13 : decode b_S_addDigits 13 = .ok (.iload_n 2, 1) := by decide +kernel
theorem d_S_addDigits_14 : decode b_S_addDigits 14 = .ok (.bipush (10), 2) := by decide +kernel
theorem d_S_addDigits_16 : decode b_S_addDigits 16 = .ok (.idiv, 1) := by decide +kernel
theorem d_S_addDigits_17 : decode b_S_addDigits 17 = .ok (.istore_n 2, 1) := by decide +kernel
theorem d_S_addDigits_18 : decode b_S_addDigits 18 = .ok (.goto (-15), 3) := by decide +kernel
theorem d_S_addDigits_21 : decode b_S_addDigits 21 = .ok (.iload_n 2, 1) := by decide +kernel
theorem d_S_addDigits_22 : decode b_S_addDigits 22 = .ok (.ifCond .le (26), 3) := by decide +kernel
theorem d_S_addDigits_25 : decode b_S_addDigits 25 = .ok (.aload_n 0, 1) := by decide +kernel
theorem d_S_addDigits_26 : decode b_S_addDigits 26 = .ok (.bipush (48), 2) := by decide +kernel
theorem d_S_addDigits_28 : decode b_S_addDigits 28 = .ok (.iload_n 1, 1) := by decide +kernel
theorem d_S_addDigits_29 : decode b_S_addDigits 29 = .ok (.iload_n 2, 1) := by decide +kernel
theorem d_S_addDigits_30 : decode b_S_addDigits 30 = .ok (.idiv, 1) := by decide +kernel
theorem d_S_addDigits_31 : decode b_S_addDigits 31 = .ok (.bipush (10), 2) := by decide +kernel
theorem d_S_addDigits_33 : decode b_S_addDigits 33 = .ok (.irem, 1) := by decide +kernel
theorem d_S_addDigits_34 : decode b_S_addDigits 34 = .ok (.iadd, 1) := by decide +kernel
theorem d_S_addDigits_35 : decode b_S_addDigits 35 = .ok (.bipush (32), 2) := by decide +kernel
theorem d_S_addDigits_37 : decode b_S_addDigits 37 = .ok (.invokevirtual 132, 3) := by decide +kernel
theorem d_S_addDigits_40 : decode b_S_addDigits 40 = .ok (.iload_n 2, 1) := by decide +kernel
theorem d_S_addDigits_41 : decode b_S_addDigits 41 = .ok (.bipush (10), 2) := by decide +kernel
theorem d_S_addDigits_43 : decode b_S_addDigits 43 = .ok (.idiv, 1) := by decide +kernel
theorem d_S_addDigits_44 : decode b_S_addDigits 44 = .ok (.istore_n 2, 1) := by decide +kernel
theorem d_S_addDigits_45 : decode b_S_addDigits 45 = .ok (.goto (-24), 3) := by decide +kernel
theorem d_S_addDigits_48 : decode b_S_addDigits 48 = .ok (.return_, 1) := by decide +kernel
theorem d_S_addAhead_0 : decode b_S_addAhead 0 = .ok (.aload_n 0, 1) := by decide +kernel
theorem d_S_addAhead_1 : decode b_S_addAhead 1 = .ok (.getfield 25, 3) := by decide +kernel
theorem d_S_addAhead_4 : decode b_S_addAhead 4 = .ok (.iload_n 1, 1) := by decide +kernel
theorem d_S_addAhead_5 : decode b_S_addAhead 5 = .ok (.invokevirtual 119, 3) := by decide +kernel
theorem d_S_addAhead_8 : decode b_S_addAhead 8 = .ok (.aload_n 0, 1) := by decide +kernel
theorem d_S_addAhead_9 : decode b_S_addAhead 9 = .ok (.getfield 28, 3) := by decide +kernel
theorem d_S_addAhead_12 : decode b_S_addAhead 12 = .ok (.iload_n 2, 1) := by decide +kernel
theorem d_S_addAhead_13 : decode b_S_addAhead 13 = .ok (.invokevirtual 119, 3) := by decide +kernel
theorem d_S_addAhead_16 : decode b_S_addAhead 16 = .ok (.return_, 1) := by decide +kernel
theorem d_S_cutAhead_0 : decode b_S_cutAhead 0 = .ok (.aload_n 0, 1) := by decide +kernel
theorem d_S_cutAhead_1 : decode b_S_cutAhead 1 = .ok (.getfield 25, 3) := by decide +kernel
theorem d_S_cutAhead_4 : decode b_S_cutAhead 4 = .ok (.iload_n 1, 1) := by decide +kernel
theorem d_S_cutAhead_5 : decode b_S_cutAhead 5 = .ok (.invokevirtual 156, 3) := by decide +kernel
theorem d_S_cutAhead_8 : decode b_S_cutAhead 8 = .ok (.aload_n 0, 1) := by decide +kernel
theorem d_S_cutAhead_9 : decode b_S_cutAhead 9 = .ok (.getfield 28, 3) := by decide +kernel
theorem d_S_cutAhead_12 : decode b_S_cutAhead 12 = .ok (.iload_n 1, 1) := by decide +kernel
theorem d_S_cutAhead_13 : decode b_S_cutAhead 13 = .ok (.invokevirtual 156, 3) := by decide +kernel
theorem d_S_cutAhead_16 : decode b_S_cutAhead 16 = .ok (.return_, 1) := by decide +kernel
theorem d_S_hasLines_0 : decode b_S_hasLines 0 = .ok (.aload_n 1, 1) := by decide +kernel
theorem d_S_hasLines_1 : decode b_S_hasLines 1 = .ok (.getfield 41, 3) := by decide +kernel
theorem d_S_hasLines_4 : decode b_S_hasLines 4 = .ok (.tableswitch (78) (1) (6) #[40, 40, 42, 59, 65, 65], 40) := by decide +kernel
theorem d_S_hasLines_44 : decode b_S_hasLines 44 = .ok (.iconst 1, 1) := by decide +kernel
theorem d_S_hasLines_45 : decode b_S_hasLines 45 = .ok (.ireturn, 1) := by decide +kernel
theorem d_S_hasLines_46 : decode b_S_hasLines 46 = .ok (.aload_n 1, 1) := by decide +kernel
theorem d_S_hasLines_47 : decode b_S_hasLines 47 = .ok (.getfield 86, 3) := by decide +kernel
theorem d_S_hasLines_50 : decode b_S_hasLines 50 = .ok (.aload_n 1, 1) := by decide +kernel
theorem d_S_hasLines_51 : decode b_S_hasLines 51 = .ok (.getfield 83, 3) := by decide +kernel
theorem d_S_hasLines_54 : decode b_S_hasLines 54 = .ok (.if_icmp .le (7), 3) := by decide +kernel
theorem d_S_hasLines_57 : decode b_S_hasLines 57 = .ok (.iconst 1, 1) := by decide +kernel
theorem d_S_hasLines_58 : decode b_S_hasLines 58 = .ok (.goto (4), 3) := by decide +kernel
theorem d_S_hasLines_61 : decode b_S_hasLines 61 = .ok (.iconst 0, 1) := by decide +kernel
theorem d_S_hasLines_62 : decode b_S_hasLines 62 = .ok (.ireturn, 1) := by decide +kernel
theorem d_S_hasLines_63 : decode b_S_hasLines 63 = .ok (.aload_n 0, 1) := by decide +kernel
theorem d_S_hasLines_64 : decode b_S_hasLines 64 = .ok (.aload_n 1, 1) := by decide +kernel
theorem d_S_hasLines_65 : decode b_S_hasLines 65 = .ok (.invokevirtual 167, 3) := by decide +kernel
theorem d_S_hasLines_68 : decode b_S_hasLines 68 = .ok (.ireturn, 1) := by decide +kernel
theorem d_S_hasLines_69 : decode b_S_hasLines 69 = .ok (.aload_n 1, 1) := by decide +kernel
theorem d_S_hasLines_70 : decode b_S_hasLines 70 = .ok (.getfield 51, 3) := by decide +kernel
theorem d_S_hasLines_73 : decode b_S_hasLines 73 = .ok (.ifnull (7), 3) := by decide +kernel
theorem d_S_hasLines_76 : decode b_S_hasLines 76 = .ok (.iconst 1, 1) := by decide +kernel
theorem d_S_hasLines_77 : decode b_S_hasLines 77 = .ok (.goto (4), 3) := by decide +kernel
theorem d_S_hasLines_80 : decode b_S_hasLines 80 = .ok (.iconst 0, 1) := by decide +kernel
theorem d_S_hasLines_81 : decode b_S_hasLines 81 = .ok (.ireturn, 1) := by decide +kernel
theorem d_S_hasLines_82 : decode b_S_hasLines 82 = .ok (.aload_n 0, 1) := by decide +kernel
theorem d_S_hasLines_83 : decode b_S_hasLines 83 = .ok (.aload_n 1, 1) := by decide +kernel
theorem d_S_hasLines_84 : decode b_S_hasLines 84 = .ok (.getfield 83, 3) := by decide +kernel
theorem d_S_hasLines_87 : decode b_S_hasLines 87 = .ok (.aload_n 2, 1) := by decide +kernel
theorem d_S_hasLines_88 : decode b_S_hasLines 88 = .ok (.getfield 86, 3) := by decide +kernel
theorem d_S_hasLines_91 : decode b_S_hasLines 91 = .ok (.invokevirtual 170, 3) := by decide +kernel
theorem d_S_hasLines_94 : decode b_S_hasLines 94 = .ok (.ireturn, 1) := by decide +kernel
theorem d_S_holdsLines_0 : decode b_S_holdsLines 0 = .ok (.aload_n 1, 1) := by decide +kernel
theorem d_S_holdsLines_1 : decode b_S_holdsLines 1 = .ok (.getfield 51, 3) := by decide +kernel
theorem d_S_holdsLines_4 : decode b_S_holdsLines 4 = .ok (.astore_n 2, 1) := by decide +kernel
theorem d_S_holdsLines_5 : decode b_S_holdsLines 5 = .ok (.aload_n 2, 1) := by decide +kernel
theorem d_S_holdsLines_6 : decode b_S_holdsLines 6 = .ok (.ifnull (22), 3) := by decide +kernel
theorem d_S_holdsLines_9 : decode b_S_holdsLines 9 = .ok (.aload_n 0, 1) := by decide +kernel
theorem d_S_holdsLines_10 : decode b_S_holdsLines 10 = .ok (.aload_n 2, 1) := by decide +kernel
theorem d_S_holdsLines_11 : decode b_S_holdsLines 11 = .ok (.aload_n 2, 1) := by decide +kernel
theorem d_S_holdsLines_12 : decode b_S_holdsLines 12 = .ok (.invokevirtual 59, 3) := by decide +kernel
theorem d_S_holdsLines_15 : decode b_S_holdsLines 15 = .ok (.ifCond .eq (5), 3) := by decide +kernel
theorem d_S_holdsLines_18 : decode b_S_holdsLines 18 = .ok (.iconst 1, 1) := by decide +kernel
theorem d_S_holdsLines_19 : decode b_S_holdsLines 19 = .ok (.ireturn, 1) := by decide +kernel
theorem d_S_holdsLines_20 : decode b_S_holdsLines 20 = .ok (.aload_n 2, 1) := by decide +kernel
theorem d_S_holdsLines_21 : decode b_S_holdsLines 21 = .ok (.getfield 70, 3) := by decide +kernel
theorem d_S_holdsLines_24 : decode b_S_holdsLines 24 = .ok (.astore_n 2, 1) := by decide +kernel
theorem d_S_holdsLines_25 : decode b_S_holdsLines 25 = .ok (.goto (-20), 3) := by decide +kernel
theorem d_S_holdsLines_28 : decode b_S_holdsLines 28 = .ok (.iconst 0, 1) := by decide +kernel
theorem d_S_holdsLines_29 : decode b_S_holdsLines 29 = .ok (.ireturn, 1) := by decide +kernel
theorem d_S_holdsParagraph_0 : decode b_S_holdsParagraph 0 = .ok (.aload_n 1, 1) := by decide +kernel
theorem d_S_holdsParagraph_1 : decode b_S_holdsParagraph 1 = .ok (.getfield 51, 3) := by decide +kernel
theorem d_S_holdsParagraph_4 : decode b_S_holdsParagraph 4 = .ok (.astore_n 2, 1) := by decide +kernel
theorem d_S_holdsParagraph_5 : decode b_S_holdsParagraph 5 = .ok (.aload_n 2, 1) := by decide +kernel
theorem d_S_holdsParagraph_6 : decode b_S_holdsParagraph 6 = .ok (.ifnull (35), 3) := by decide +kernel
theorem d_S_holdsParagraph_9 : decode b_S_holdsParagraph 9 = .ok (.aload_n 2, 1) := by decide +kernel
theorem d_S_holdsParagraph_10 : decode b_S_holdsParagraph 10 = .ok (.getfield 41, 3) := by decide +kernel
theorem d_S_holdsParagraph_13 : decode b_S_holdsParagraph 13 = .ok (.ifCond .ne (20), 3) := by decide +kernel
theorem d_S_holdsParagraph_16 : decode b_S_holdsParagraph 16 = .ok (.aload_n 0, 1) := by decide +kernel
theorem d_S_holdsParagraph_17 : decode b_S_holdsParagraph 17 = .ok (.aload_n 2, 1) := by decide +kernel
theorem d_S_holdsParagraph_18 : decode b_S_holdsParagraph 18 = .ok (.getfield 83, 3) := by decide +kernel
theorem d_S_holdsParagraph_21 : decode b_S_holdsParagraph 21 = .ok (.aload_n 2, 1) := by decide +kernel
theorem d_S_holdsParagraph_22 : decode b_S_holdsParagraph 22 = .ok (.getfield 86, 3) := by decide +kernel
theorem d_S_holdsParagraph_25 : decode b_S_holdsParagraph 25 = .ok (.invokevirtual 170, 3) := by decide +kernel
theorem d_S_holdsParagraph_28 : decode b_S_holdsParagraph 28 = .ok (.ifCond .eq (5), 3) := by decide +kernel
theorem d_S_holdsParagraph_31 : decode b_S_holdsParagraph 31 = .ok (.iconst 1, 1) := by decide +kernel
theorem d_S_holdsParagraph_32 : decode b_S_holdsParagraph 32 = .ok (.ireturn, 1) := by decide +kernel
theorem d_S_holdsParagraph_33 : decode b_S_holdsParagraph 33 = .ok (.aload_n 2, 1) := by decide +kernel
theorem d_S_holdsParagraph_34 : decode b_S_holdsParagraph 34 = .ok (.getfield 70, 3) := by decide +kernel
theorem d_S_holdsParagraph_37 : decode b_S_holdsParagraph 37 = .ok (.astore_n 2, 1) := by decide +kernel
theorem d_S_holdsParagraph_38 : decode b_S_holdsParagraph 38 = .ok (.goto (-33), 3) := by decide +kernel
theorem d_S_holdsParagraph_41 : decode b_S_holdsParagraph 41 = .ok (.iconst 0, 1) := by decide +kernel
theorem d_S_holdsParagraph_42 : decode b_S_holdsParagraph 42 = .ok (.ireturn, 1) := by decide +kernel
