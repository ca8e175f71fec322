theorem d_M_signLength_28 : decode b_M_signLength 28 = .ok (.ireturn, 1) := by decide +kernel
theorem d_M_show_0 : decode b_M_show 0 = .ok (.aload_n 0, 1) := by decide +kernel
theorem d_M_show_1 : decode b_M_show 1 = .ok (.getfield 91, 3) := by decide +kernel
theorem d_M_show_4 : decode b_M_show 4 = .ok (.aload_n 0, 1) := by decide +kernel
theorem d_M_show_5 : decode b_M_show 5 = .ok (.getfield 145, 3) := by decide +kernel
theorem d_M_show_8 : decode b_M_show 8 = .ok (.iload_n 1, 1) := by decide +kernel
theorem d_M_show_9 : decode b_M_show 9 = .ok (.iastore, 1) := by decide +kernel
theorem d_M_show_10 : decode b_M_show 10 = .ok (.aload_n 0, 1) := by decide +kernel
theorem d_M_show_11 : decode b_M_show 11 = .ok (.dup, 1) := by decide +kernel
theorem d_M_show_12 : decode b_M_show 12 = .ok (.getfield 145, 3) := by decide +kernel
theorem d_M_show_15 : decode b_M_show 15 = .ok (.iconst 1, 1) := by decide +kernel
theorem d_M_show_16 : decode b_M_show 16 = .ok (.iadd, 1) := by decide +kernel
theorem d_M_show_17 : decode b_M_show 17 = .ok (.putfield 145, 3) := by decide +kernel
theorem d_M_show_20 : decode b_M_show 20 = .ok (.return_, 1) := by decide +kernel
theorem d_M_showNumber_0 : decode b_M_showNumber 0 = .ok (.iconst 1, 1) := by decide +kernel
theorem d_M_showNumber_1 : decode b_M_showNumber 1 = .ok (.istore_n 2, 1) := by decide +kernel
theorem d_M_showNumber_2 : decode b_M_showNumber 2 = .ok (.iload_n 1, 1) := by decide +kernel
theorem d_M_showNumber_3 : decode b_M_showNumber 3 = .ok (.iload_n 2, 1) := by decide +kernel
theorem d_M_showNumber_4 : decode b_M_showNumber 4 = .ok (.idiv, 1) := by decide +kernel
theorem d_M_showNumber_5 : decode b_M_showNumber 5 = .ok (.bipush (9), 2) := by decide +kernel
theorem d_M_showNumber_7 : decode b_M_showNumber 7 = .ok (.if_icmp .le (11), 3) := by decide +kernel
theorem d_M_showNumber_10 : decode b_M_showNumber 10 = .ok (.iload_n 2, 1) := by decide +kernel
theorem d_M_showNumber_11 : decode b_M_showNumber 11 = .ok (.bipush (10), 2) := by decide +kernel
theorem d_M_showNumber_13 : decode b_M_showNumber 13 = .ok (.imul, 1) := by decide +kernel
theorem d_M_showNumber_14 : decode b_M_showNumber 14 = .ok (.istore_n 2, 1) := by decide +kernel
theorem d_M_showNumber_15 : decode b_M_showNumber 15 = .ok (.goto (-13), 3) := by decide +kernel
theorem d_M_showNumber_18 : decode b_M_showNumber 18 = .ok (.iload_n 2, 1) := by decide +kernel
theorem d_M_showNumber_19 : decode b_M_showNumber 19 = .ok (.ifCond .le (24), 3) := by decide +kernel
theorem d_M_showNumber_22 : decode b_M_showNumber 22 = .ok (.aload_n 0, 1) := by decide +kernel
theorem d_M_showNumber_23 : decode b_M_showNumber 23 = .ok (.bipush (48), 2) := by decide +kernel
theorem d_M_showNumber_25 : decode b_M_showNumber 25 = .ok (.iload_n 1, 1) := by decide +kernel
theorem d_M_showNumber_26 : decode b_M_showNumber 26 = .ok (.iload_n 2, 1) := by decide +kernel
theorem d_M_showNumber_27 : decode b_M_showNumber 27 = .ok (.idiv, 1) := by decide +kernel
theorem d_M_showNumber_28 : decode b_M_showNumber 28 = .ok (.bipush (10), 2) := by decide +kernel
theorem d_M_showNumber_30 : decode b_M_showNumber 30 = .ok (.irem, 1) := by decide +kernel
theorem d_M_showNumber_31 : decode b_M_showNumber 31 = .ok (.iadd, 1) := by decide +kernel
theorem d_M_showNumber_32 : decode b_M_showNumber 32 = .ok (.invokevirtual 148, 3) := by decide +kernel
theorem d_M_showNumber_35 : decode b_M_showNumber 35 = .ok (.iload_n 2, 1) := by decide +kernel
theorem d_M_showNumber_36 : decode b_M_showNumber 36 = .ok (.bipush (10), 2) := by decide +kernel
theorem d_M_showNumber_38 : decode b_M_showNumber 38 = .ok (.idiv, 1) := by decide +kernel
theorem d_M_showNumber_39 : decode b_M_showNumber 39 = .ok (.istore_n 2, 1) := by decide +kernel
theorem d_M_showNumber_40 : decode b_M_showNumber 40 = .ok (.goto (-22), 3) := by decide +kernel
theorem d_M_showNumber_43 : decode b_M_showNumber 43 = .ok (.return_, 1) := by decide +kernel
theorem d_M_showHolders_0 : decode b_M_showHolders 0 = .ok (.aload_n 0, 1) := by decide +kernel
theorem d_M_showHolders_1 : decode b_M_showHolders 1 = .ok (.iconst 0, 1) := by decide +kernel
theorem d_M_showHolders_2 : decode b_M_showHolders 2 = .ok (.putfield 145, 3) := by decide +kernel
theorem d_M_showHolders_5 : decode b_M_showHolders 5 = .ok (.iconst 0, 1) := by decide +kernel
theorem d_M_showHolders_6 : decode b_M_showHolders 6 = .ok (.istore_n 2, 1) := by decide +kernel
theorem d_M_showHolders_7 : decode b_M_showHolders 7 = .ok (.iload_n 2, 1) := by decide +kernel
theorem d_M_showHolders_8 : decode b_M_showHolders 8 = .ok (.iload_n 1, 1) := by decide +kernel
theorem d_M_showHolders_9 : decode b_M_showHolders 9 = .ok (.if_icmp .ge (151), 3) := by decide +kernel
theorem d_M_showHolders_12 : decode b_M_showHolders 12 = .ok (.aload_n 0, 1) := by decide +kernel
theorem d_M_showHolders_13 : decode b_M_showHolders 13 = .ok (.getfield 61, 3) := by decide +kernel
theorem d_M_showHolders_16 : decode b_M_showHolders 16 = .ok (.iload_n 2, 1) := by decide +kernel
theorem d_M_showHolders_17 : decode b_M_showHolders 17 = .ok (.iaload, 1) := by decide +kernel
theorem d_M_showHolders_18 : decode b_M_showHolders 18 = .ok (.iconst 4, 1) := by decide +kernel
theorem d_M_showHolders_19 : decode b_M_showHolders 19 = .ok (.if_icmp .ne (18), 3) := by decide +kernel
theorem d_M_showHolders_22 : decode b_M_showHolders 22 = .ok (.aload_n 0, 1) := by decide +kernel
theorem d_M_showHolders_23 : decode b_M_showHolders 23 = .ok (.bipush (62), 2) := by decide +kernel
theorem d_M_showHolders_25 : decode b_M_showHolders 25 = .ok (.invokevirtual 148, 3) := by decide +kernel
theorem d_M_showHolders_28 : decode b_M_showHolders 28 = .ok (.aload_n 0, 1) := by decide +kernel
theorem d_M_showHolders_29 : decode b_M_showHolders 29 = .ok (.bipush (32), 2) := by decide +kernel
theorem d_M_showHolders_31 : decode b_M_showHolders 31 = .ok (.invokevirtual 148, 3) := by decide +kernel
theorem d_M_showHolders_34 : decode b_M_showHolders 34 = .ok (.goto (120), 3) := by decide +kernel
theorem d_M_showHolders_37 : decode b_M_showHolders 37 = .ok (.aload_n 0, 1) := by decide +kernel
theorem d_M_showHolders_38 : decode b_M_showHolders 38 = .ok (.getfield 61, 3) := by decide +kernel
theorem d_M_showHolders_41 : decode b_M_showHolders 41 = .ok (.iload_n 2, 1) := by decide +kernel
theorem d_M_showHolders_42 : decode b_M_showHolders 42 = .ok (.iaload, 1) := by decide +kernel
theorem d_M_showHolders_43 : decode b_M_showHolders 43 = .ok (.bipush (7), 2) := by decide +kernel
theorem d_M_showHolders_45 : decode b_M_showHolders 45 = .ok (.if_icmp .ne (71), 3) := by decide +kernel
theorem d_M_showHolders_48 : decode b_M_showHolders 48 = .ok (.aload_n 0, 1) := by decide +kernel
theorem d_M_showHolders_49 : decode b_M_showHolders 49 = .ok (.getfield 73, 3) := by decide +kernel
theorem d_M_showHolders_52 : decode b_M_showHolders 52 = .ok (.iload_n 2, 1) := by decide +kernel
theorem d_M_showHolders_53 : decode b_M_showHolders 53 = .ok (.baload, 1) := by decide +kernel
theorem d_M_showHolders_54 : decode b_M_showHolders 54 = .ok (.ifCond .eq (62), 3) := by decide +kernel
theorem d_M_showHolders_57 : decode b_M_showHolders 57 = .ok (.aload_n 0, 1) := by decide +kernel
theorem d_M_showHolders_58 : decode b_M_showHolders 58 = .ok (.getfield 67, 3) := by decide +kernel
theorem d_M_showHolders_61 : decode b_M_showHolders 61 = .ok (.iload_n 2, 1) := by decide +kernel
theorem d_M_showHolders_62 : decode b_M_showHolders 62 = .ok (.iaload, 1) := by decide +kernel
theorem d_M_showHolders_63 : decode b_M_showHolders 63 = .ok (.ifCond .ge (12), 3) := by decide +kernel
theorem d_M_showHolders_66 : decode b_M_showHolders 66 = .ok (.aload_n 0, 1) := by decide +kernel
theorem d_M_showHolders_67 : decode b_M_showHolders 67 = .ok (.bipush (42), 2) := by decide +kernel
theorem d_M_showHolders_69 : decode b_M_showHolders 69 = .ok (.invokevirtual 148, 3) := by decide +kernel
theorem d_M_showHolders_72 : decode b_M_showHolders 72 = .ok (.goto (13), 3) := by decide +kernel
theorem d_M_showHolders_75 : decode b_M_showHolders 75 = .ok (.aload_n 0, 1) := by decide +kernel
theorem d_M_showHolders_76 : decode b_M_showHolders 76 = .ok (.aload_n 0, 1) := by decide +kernel
theorem d_M_showHolders_77 : decode b_M_showHolders 77 = .ok (.getfield 67, 3) := by decide +kernel
theorem d_M_showHolders_80 : decode b_M_showHolders 80 = .ok (.iload_n 2, 1) := by decide +kernel
theorem d_M_showHolders_81 : decode b_M_showHolders 81 = .ok (.iaload, 1) := by decide +kernel
theorem d_M_showHolders_82 : decode b_M_showHolders 82 = .ok (.invokevirtual 152, 3) := by decide +kernel
theorem d_M_showHolders_85 : decode b_M_showHolders 85 = .ok (.aload_n 0, 1) := by decide +kernel
theorem d_M_showHolders_86 : decode b_M_showHolders 86 = .ok (.getfield 67, 3) := by decide +kernel
theorem d_M_showHolders_89 : decode b_M_showHolders 89 = .ok (.iload_n 2, 1) := by decide +kernel
theorem d_M_showHolders_90 : decode b_M_showHolders 90 = .ok (.iaload, 1) := by decide +kernel
theorem d_M_showHolders_91 : decode b_M_showHolders 91 = .ok (.ifCond .lt (9), 3) := by decide +kernel
theorem d_M_showHolders_94 : decode b_M_showHolders 94 = .ok (.aload_n 0, 1) := by decide +kernel
theorem d_M_showHolders_95 : decode b_M_showHolders 95 = .ok (.bipush (46), 2) := by decide +kernel
theorem d_M_showHolders_97 : decode b_M_showHolders 97 = .ok (.invokevirtual 148, 3) := by decide +kernel
theorem d_M_showHolders_100 : decode b_M_showHolders 100 = .ok (.aload_n 0, 1) := by decide +kernel
theorem d_M_showHolders_101 : decode b_M_showHolders 101 = .ok (.bipush (32), 2) := by decide +kernel
theorem d_M_showHolders_103 : decode b_M_showHolders 103 = .ok (.invokevirtual 148, 3) := by decide +kernel
theorem d_M_showHolders_106 : decode b_M_showHolders 106 = .ok (.aload_n 0, 1) := by decide +kernel
theorem d_M_showHolders_107 : decode b_M_showHolders 107 = .ok (.getfield 73, 3) := by decide +kernel
theorem d_M_showHolders_110 : decode b_M_showHolders 110 = .ok (.iload_n 2, 1) := by decide +kernel
theorem d_M_showHolders_111 : decode b_M_showHolders 111 = .ok (.iconst 0, 1) := by decide +kernel
theorem d_M_showHolders_112 : decode b_M_showHolders 112 = .ok (.bastore, 1) := by decide +kernel
theorem d_M_showHolders_113 : decode b_M_showHolders 113 = .ok (.goto (41), 3) := by decide +kernel
theorem d_M_showHolders_116 : decode b_M_showHolders 116 = .ok (.aload_n 0, 1) := by decide +kernel
theorem d_M_showHolders_117 : decode b_M_showHolders 117 = .ok (.getfield 61, 3) := by decide +kernel
theorem d_M_showHolders_120 : decode b_M_showHolders 120 = .ok (.iload_n 2, 1) := by decide +kernel
theorem d_M_showHolders_121 : decode b_M_showHolders 121 = .ok (.iaload, 1) := by decide +kernel
theorem d_M_showHolders_122 : decode b_M_showHolders 122 = .ok (.bipush (7), 2) := by decide +kernel
theorem d_M_showHolders_124 : decode b_M_showHolders 124 = .ok (.if_icmp .ne (30), 3) := by decide +kernel
theorem d_M_showHolders_127 : decode b_M_showHolders 127 = .ok (.iconst 0, 1) := by decide +kernel
theorem d_M_showHolders_128 : decode b_M_showHolders 128 = .ok (.istore_n 3, 1) := by decide +kernel
theorem d_M_showHolders_129 : decode b_M_showHolders 129 = .ok (.iload_n 3, 1) := by decide +kernel
theorem d_M_showHolders_130 : decode b_M_showHolders 130 = .ok (.aload_n 0, 1) := by decide +kernel
theorem d_M_showHolders_131 : decode b_M_showHolders 131 = .ok (.getfield 67, 3) := by decide +kernel
theorem d_M_showHolders_134 : decode b_M_showHolders 134 = .ok (.iload_n 2, 1) := by decide +kernel
theorem d_M_showHolders_135 : decode b_M_showHolders 135 = .ok (.iaload, 1) := by decide +kernel
theorem d_M_showHolders_136 : decode b_M_showHolders 136 = .ok (.invokestatic 155, 3) := by decide +kernel
theorem d_M_showHolders_139 : decode b_M_showHolders 139 = .ok (.if_icmp .ge (15), 3) := by decide +kernel
theorem d_M_showHolders_142 : decode b_M_showHolders 142 = .ok (.aload_n 0, 1) := by decide +kernel
theorem d_M_showHolders_143 : decode b_M_showHolders 143 = .ok (.bipush (32), 2) := by decide +kernel
theorem d_M_showHolders_145 : decode b_M_showHolders 145 = .ok (.invokevirtual 148, 3) := by decide +kernel
theorem d_M_showHolders_148 : decode b_M_showHolders 148 = .ok (.iinc 3 (1), 3) := by decide +kernel
theorem d_M_showHolders_151 : decode b_M_showHolders 151 = .ok (.goto (-22), 3) := by decide +kernel
theorem d_M_showHolders_154 : decode b_M_showHolders 154 = .ok (.iinc 2 (1), 3) := by decide +kernel
theorem d_M_showHolders_157 : decode b_M_showHolders 157 = .ok (.goto (-150), 3) := by decide +kernel
theorem d_M_showHolders_160 : decode b_M_showHolders 160 = .ok (.return_, 1) := by decide +kernel
theorem d_M_endLine_0 : decode b_M_endLine 0 = .ok (.aload_n 0, 1) := by decide +kernel
theorem d_M_endLine_1 : decode b_M_endLine 1 = .ok (.getfield 145, 3) := by decide +kernel
theorem d_M_endLine_4 : decode b_M_endLine 4 = .ok (.ifCond .le (32), 3) := by decide +kernel
theorem d_M_endLine_7 : decode b_M_endLine 7 = .ok (.aload_n 0, 1) := by decide +kernel
theorem d_M_endLine_8 : decode b_M_endLine 8 = .ok (.getfield 91, 3) := by decide +kernel
theorem d_M_endLine_11 : decode b_M_endLine 11 = .ok (.aload_n 0, 1) := by decide +kernel
theorem d_M_endLine_12 : decode b_M_endLine 12 = .ok (.getfield 145, 3) := by decide +kernel
theorem d_M_endLine_15 : decode b_M_endLine 15 = .ok (.iconst 1, 1) := by decide +kernel
theorem d_M_endLine_16 : decode b_M_endLine 16 = .ok (.isub, 1) := by decide +kernel
theorem d_M_endLine_17 : decode b_M_endLine 17 = .ok (.iaload, 1) := by decide +kernel
theorem d_M_endLine_18 : decode b_M_endLine 18 = .ok (.bipush (32), 2) := by decide +kernel
theorem d_M_endLine_20 : decode b_M_endLine 20 = .ok (.if_icmp .ne (16), 3) := by decide +kernel
theorem d_M_endLine_23 : decode b_M_endLine 23 = .ok (.aload_n 0, 1) := by decide +kernel
theorem d_M_endLine_24 : decode b_M_endLine 24 = .ok (.dup, 1) := by decide +kernel
theorem d_M_endLine_25 : decode b_M_endLine 25 = .ok (.getfield 145, 3) := by decide +kernel
theorem d_M_endLine_28 : decode b_M_endLine 28 = .ok (.iconst 1, 1) := by decide +kernel
theorem d_M_endLine_29 : decode b_M_endLine 29 = .ok (.isub, 1) := by decide +kernel
theorem d_M_endLine_30 : decode b_M_endLine 30 = .ok (.putfield 145, 3) := by decide +kernel
theorem d_M_endLine_33 : decode b_M_endLine 33 = .ok (.goto (-33), 3) := by decide +kernel
theorem d_M_endLine_36 : decode b_M_endLine 36 = .ok (.aload_n 0, 1) := by decide +kernel
theorem d_M_endLine_37 : decode b_M_endLine 37 = .ok (.getfield 159, 3) := by decide +kernel
theorem d_M_endLine_40 : decode b_M_endLine 40 = .ok (.istore_n 2, 1) := by decide +kernel
theorem d_M_endLine_41 : decode b_M_endLine 41 = .ok (.aload_n 0, 1) := by decide +kernel
theorem d_M_endLine_42 : decode b_M_endLine 42 = .ok (.dup, 1) := by decide +kernel
theorem d_M_endLine_43 : decode b_M_endLine 43 = .ok (.getfield 159, 3) := by decide +kernel
theorem d_M_endLine_46 : decode b_M_endLine 46 = .ok (.iconst 1, 1) := by decide +kernel
theorem d_M_endLine_47 : decode b_M_endLine 47 = .ok (.iadd, 1) := by decide +kernel
theorem d_M_endLine_48 : decode b_M_endLine 48 = .ok (.putfield 159, 3) := by decide +kernel
theorem d_M_endLine_51 : decode b_M_endLine 51 = .ok (.aload_n 0, 1) := by decide +kernel
theorem d_M_endLine_52 : decode b_M_endLine 52 = .ok (.getfield 162, 3) := by decide +kernel
theorem d_M_endLine_55 : decode b_M_endLine 55 = .ok (.ifCond .eq (4), 3) := by decide +kernel
theorem d_M_endLine_58 : decode b_M_endLine 58 = .ok (.return_, 1) := by decide +kernel
theorem d_M_endLine_59 : decode b_M_endLine 59 = .ok (.aload_n 0, 1) := by decide +kernel
theorem d_M_endLine_60 : decode b_M_endLine 60 = .ok (.getfield 35, 3) := by decide +kernel
theorem d_M_endLine_63 : decode b_M_endLine 63 = .ok (.iload_n 2, 1) := by decide +kernel
theorem d_M_endLine_64 : decode b_M_endLine 64 = .ok (.aload_n 0, 1) := by decide +kernel
theorem d_M_endLine_65 : decode b_M_endLine 65 = .ok (.getfield 145, 3) := by decide +kernel
theorem d_M_endLine_68 : decode b_M_endLine 68 = .ok (.iastore, 1) := by decide +kernel
theorem d_M_endLine_69 : decode b_M_endLine 69 = .ok (.aload_n 0, 1) := by decide +kernel
theorem d_M_endLine_70 : decode b_M_endLine 70 = .ok (.getfield 38, 3) := by decide +kernel
theorem d_M_endLine_73 : decode b_M_endLine 73 = .ok (.iload_n 2, 1) := by decide +kernel
theorem d_M_endLine_74 : decode b_M_endLine 74 = .ok (.iconst 0, 1) := by decide +kernel
theorem d_M_endLine_75 : decode b_M_endLine 75 = .ok (.iastore, 1) := by decide +kernel
theorem d_M_endLine_76 : decode b_M_endLine 76 = .ok (.aload_n 0, 1) := by decide +kernel
theorem d_M_endLine_77 : decode b_M_endLine 77 = .ok (.getfield 47, 3) := by decide +kernel
theorem d_M_endLine_80 : decode b_M_endLine 80 = .ok (.iload_n 2, 1) := by decide +kernel
theorem d_M_endLine_81 : decode b_M_endLine 81 = .ok (.iload_n 1, 1) := by decide +kernel
theorem d_M_endLine_82 : decode b_M_endLine 82 = .ok (.bastore, 1) := by decide +kernel
theorem d_M_endLine_83 : decode b_M_endLine 83 = .ok (.iconst 0, 1) := by decide +kernel
theorem d_M_endLine_84 : decode b_M_endLine 84 = .ok (.istore_n 3, 1) := by decide +kernel
theorem d_M_endLine_85 : decode b_M_endLine 85 = .ok (.iload_n 3, 1) := by decide +kernel
theorem d_M_endLine_86 : decode b_M_endLine 86 = .ok (.bipush (60), 2) := by decide +kernel
theorem d_M_endLine_88 : decode b_M_endLine 88 = .ok (.if_icmp .ge (40), 3) := by decide +kernel
theorem d_M_endLine_91 : decode b_M_endLine 91 = .ok (.aload_n 0, 1) := by decide +kernel
theorem d_M_endLine_92 : decode b_M_endLine 92 = .ok (.getfield 52, 3) := by decide +kernel
theorem d_M_endLine_95 : decode b_M_endLine 95 = .ok (.bipush (60), 2) := by decide +kernel
theorem d_M_endLine_97 : decode b_M_endLine 97 = .ok (.iload_n 2, 1) := by decide +kernel
theorem d_M_endLine_98 : decode b_M_endLine 98 = .ok (.imul, 1) := by decide +kernel
theorem d_M_endLine_99 : decode b_M_endLine 99 = .ok (.iload_n 3, 1) := by decide +kernel
theorem d_M_endLine_100 : decode b_M_endLine 100 = .ok (.iadd, 1) := by decide +kernel
theorem d_M_endLine_101 : decode b_M_endLine 101 = .ok (.iload_n 3, 1) := by decide +kernel
theorem d_M_endLine_102 : decode b_M_endLine 102 = .ok (.aload_n 0, 1) := by decide +kernel
theorem d_M_endLine_103 : decode b_M_endLine 103 = .ok (.getfield 145, 3) := by decide +kernel
theorem d_M_endLine_106 : decode b_M_endLine 106 = .ok (.if_icmp .ge (12), 3) := by decide +kernel
theorem d_M_endLine_109 : decode b_M_endLine 109 = .ok (.aload_n 0, 1) := by decide +kernel
theorem d_M_endLine_110 : decode b_M_endLine 110 = .ok (.getfield 91, 3) := by decide +kernel
theorem d_M_endLine_113 : decode b_M_endLine 113 = .ok (.iload_n 3, 1) := by decide +kernel
theorem d_M_endLine_114 : decode b_M_endLine 114 = .ok (.iaload, 1) := by decide +kernel
theorem d_M_endLine_115 : decode b_M_endLine 115 = .ok (.goto (5), 3) := by decide +kernel
theorem d_M_endLine_118 : decode b_M_endLine 118 = .ok (.bipush (32), 2) := by decide +kernel
theorem d_M_endLine_120 : decode b_M_endLine 120 = .ok (.i2b, 1) := by decide +kernel
theorem d_M_endLine_121 : decode b_M_endLine 121 = .ok (.bastore, 1) := by decide +kernel
theorem d_M_endLine_122 : decode b_M_endLine 122 = .ok (.iinc 3 (1), 3) := by decide +kernel
theorem d_M_endLine_125 : decode b_M_endLine 125 = .ok (.goto (-40), 3) := by decide +kernel
theorem d_M_endLine_128 : decode b_M_endLine 128 = .ok (.return_, 1) := by decide +kernel
theorem d_M_giveLine_0 : decode b_M_giveLine 0 = .ok (.iconst 0, 1) := by decide +kernel
theorem d_M_giveLine_1 : decode b_M_giveLine 1 = .ok (.istore 4, 2) := by decide +kernel
theorem d_M_giveLine_3 : decode b_M_giveLine 3 = .ok (.iload 4, 2) := by decide +kernel
theorem d_M_giveLine_5 : decode b_M_giveLine 5 = .ok (.aload_n 0, 1) := by decide +kernel
theorem d_M_giveLine_6 : decode b_M_giveLine 6 = .ok (.getfield 166, 3) := by decide +kernel
theorem d_M_giveLine_9 : decode b_M_giveLine 9 = .ok (.if_icmp .ge (71), 3) := by decide +kernel
theorem d_M_giveLine_12 : decode b_M_giveLine 12 = .ok (.aload_n 0, 1) := by decide +kernel
theorem d_M_giveLine_13 : decode b_M_giveLine 13 = .ok (.getfield 82, 3) := by decide +kernel
theorem d_M_giveLine_16 : decode b_M_giveLine 16 = .ok (.iload 4, 2) := by decide +kernel
theorem d_M_giveLine_18 : decode b_M_giveLine 18 = .ok (.baload, 1) := by decide +kernel
theorem d_M_giveLine_19 : decode b_M_giveLine 19 = .ok (.ifCond .ne (6), 3) := by decide +kernel
theorem d_M_giveLine_22 : decode b_M_giveLine 22 = .ok (.goto (52), 3) := by decide +kernel
theorem d_M_giveLine_25 : decode b_M_giveLine 25 = .ok (.aload_n 0, 1) := by decide +kernel
theorem d_M_giveLine_26 : decode b_M_giveLine 26 = .ok (.getfield 79, 3) := by decide +kernel
theorem d_M_giveLine_29 : decode b_M_giveLine 29 = .ok (.iload 4, 2) := by decide +kernel
theorem d_M_giveLine_31 : decode b_M_giveLine 31 = .ok (.baload, 1) := by decide +kernel
theorem d_M_giveLine_32 : decode b_M_giveLine 32 = .ok (.ifCond .eq (26), 3) := by decide +kernel
theorem d_M_giveLine_35 : decode b_M_giveLine 35 = .ok (.aload_n 0, 1) := by decide +kernel
theorem d_M_giveLine_36 : decode b_M_giveLine 36 = .ok (.getfield 76, 3) := by decide +kernel
theorem d_M_giveLine_39 : decode b_M_giveLine 39 = .ok (.iload 4, 2) := by decide +kernel
theorem d_M_giveLine_41 : decode b_M_giveLine 41 = .ok (.baload, 1) := by decide +kernel
theorem d_M_giveLine_42 : decode b_M_giveLine 42 = .ok (.ifCond .eq (16), 3) := by decide +kernel
theorem d_M_giveLine_45 : decode b_M_giveLine 45 = .ok (.aload_n 0, 1) := by decide +kernel
theorem d_M_giveLine_46 : decode b_M_giveLine 46 = .ok (.iload 4, 2) := by decide +kernel
theorem d_M_giveLine_48 : decode b_M_giveLine 48 = .ok (.iconst 1, 1) := by decide +kernel
theorem d_M_giveLine_49 : decode b_M_giveLine 49 = .ok (.iadd, 1) := by decide +kernel
theorem d_M_giveLine_50 : decode b_M_giveLine 50 = .ok (.invokevirtual 169, 3) := by decide +kernel
theorem d_M_giveLine_53 : decode b_M_giveLine 53 = .ok (.aload_n 0, 1) := by decide +kernel
theorem d_M_giveLine_54 : decode b_M_giveLine 54 = .ok (.iconst 1, 1) := by decide +kernel
theorem d_M_giveLine_55 : decode b_M_giveLine 55 = .ok (.invokevirtual 172, 3) := by decide +kernel
theorem d_M_giveLine_58 : decode b_M_giveLine 58 = .ok (.aload_n 0, 1) := by decide +kernel
theorem d_M_giveLine_59 : decode b_M_giveLine 59 = .ok (.getfield 82, 3) := by decide +kernel
theorem d_M_giveLine_62 : decode b_M_giveLine 62 = .ok (.iload 4, 2) := by decide +kernel
theorem d_M_giveLine_64 : decode b_M_giveLine 64 = .ok (.iconst 0, 1) := by decide +kernel
theorem d_M_giveLine_65 : decode b_M_giveLine 65 = .ok (.bastore, 1) := by decide +kernel
theorem d_M_giveLine_66 : decode b_M_giveLine 66 = .ok (.aload_n 0, 1) := by decide +kernel
theorem d_M_giveLine_67 : decode b_M_giveLine 67 = .ok (.getfield 79, 3) := by decide +kernel
theorem d_M_giveLine_70 : decode b_M_giveLine 70 = .ok (.iload 4, 2) := by decide +kernel
theorem d_M_giveLine_72 : decode b_M_giveLine 72 = .ok (.iconst 1, 1) := by decide +kernel
theorem d_M_giveLine_73 : decode b_M_giveLine 73 = .ok (.bastore, 1) := by decide +kernel
theorem d_M_giveLine_74 : decode b_M_giveLine 74 = .ok (.iinc 4 (1), 3) := by decide +kernel
theorem d_M_giveLine_77 : decode b_M_giveLine 77 = .ok (.goto (-74), 3) := by decide +kernel
theorem d_M_giveLine_80 : decode b_M_giveLine 80 = .ok (.aload_n 0, 1) := by decide +kernel
theorem d_M_giveLine_81 : decode b_M_giveLine 81 = .ok (.getfield 176, 3) := by decide +kernel
theorem d_M_giveLine_84 : decode b_M_giveLine 84 = .ok (.ifCond .ge (11), 3) := by decide +kernel
theorem d_M_giveLine_87 : decode b_M_giveLine 87 = .ok (.aload_n 0, 1) := by decide +kernel
theorem d_M_giveLine_88 : decode b_M_giveLine 88 = .ok (.aload_n 0, 1) := by decide +kernel
theorem d_M_giveLine_89 : decode b_M_giveLine 89 = .ok (.getfield 159, 3) := by decide +kernel
theorem d_M_giveLine_92 : decode b_M_giveLine 92 = .ok (.putfield 176, 3) := by decide +kernel
theorem d_M_giveLine_95 : decode b_M_giveLine 95 = .ok (.aload_n 0, 1) := by decide +kernel
theorem d_M_giveLine_96 : decode b_M_giveLine 96 = .ok (.aload_n 0, 1) := by decide +kernel
theorem d_M_giveLine_97 : decode b_M_giveLine 97 = .ok (.getfield 166, 3) := by decide +kernel
theorem d_M_giveLine_100 : decode b_M_giveLine 100 = .ok (.invokevirtual 169, 3) := by decide +kernel
theorem d_M_giveLine_103 : decode b_M_giveLine 103 = .ok (.iconst 0, 1) := by decide +kernel
theorem d_M_giveLine_104 : decode b_M_giveLine 104 = .ok (.istore 4, 2) := by decide +kernel
theorem d_M_giveLine_106 : decode b_M_giveLine 106 = .ok (.iload 4, 2) := by decide +kernel
theorem d_M_giveLine_108 : decode b_M_giveLine 108 = .ok (.iload_n 3, 1) := by decide +kernel
theorem d_M_giveLine_109 : decode b_M_giveLine 109 = .ok (.if_icmp .ge (19), 3) := by decide +kernel
theorem d_M_giveLine_112 : decode b_M_giveLine 112 = .ok (.aload_n 0, 1) := by decide +kernel
theorem d_M_giveLine_113 : decode b_M_giveLine 113 = .ok (.aload_n 1, 1) := by decide +kernel
theorem d_M_giveLine_114 : decode b_M_giveLine 114 = .ok (.iload_n 2, 1) := by decide +kernel
theorem d_M_giveLine_115 : decode b_M_giveLine 115 = .ok (.iload 4, 2) := by decide +kernel
theorem d_M_giveLine_117 : decode b_M_giveLine 117 = .ok (.iadd, 1) := by decide +kernel
theorem d_M_giveLine_118 : decode b_M_giveLine 118 = .ok (.iaload, 1) := by decide +kernel
theorem d_M_giveLine_119 : decode b_M_giveLine 119 = .ok (.invokevirtual 148, 3) := by decide +kernel
theorem d_M_giveLine_122 : decode b_M_giveLine 122 = .ok (.iinc 4 (1), 3) := by decide +kernel
theorem d_M_giveLine_125 : decode b_M_giveLine 125 = .ok (.goto (-19), 3) := by decide +kernel
theorem d_M_giveLine_128 : decode b_M_giveLine 128 = .ok (.aload_n 0, 1) := by decide +kernel
theorem d_M_giveLine_129 : decode b_M_giveLine 129 = .ok (.iconst 0, 1) := by decide +kernel
theorem d_M_giveLine_130 : decode b_M_giveLine 130 = .ok (.invokevirtual 172, 3) := by decide +kernel
theorem d_M_giveLine_133 : decode b_M_giveLine 133 = .ok (.return_, 1) := by decide +kernel
theorem d_M_giveNow_0 : decode b_M_giveNow 0 = .ok (.aload_n 0, 1) := by decide +kernel
theorem d_M_giveNow_1 : decode b_M_giveNow 1 = .ok (.aload_n 0, 1) := by decide +kernel
theorem d_M_giveNow_2 : decode b_M_giveNow 2 = .ok (.getfield 88, 3) := by decide +kernel
theorem d_M_giveNow_5 : decode b_M_giveNow 5 = .ok (.iconst 0, 1) := by decide +kernel
theorem d_M_giveNow_6 : decode b_M_giveNow 6 = .ok (.aload_n 0, 1) := by decide +kernel
theorem d_M_giveNow_7 : decode b_M_giveNow 7 = .ok (.getfield 179, 3) := by decide +kernel
theorem d_M_giveNow_10 : decode b_M_giveNow 10 = .ok (.invokevirtual 182, 3) := by decide +kernel
theorem d_M_giveNow_13 : decode b_M_giveNow 13 = .ok (.aload_n 0, 1) := by decide +kernel
theorem d_M_giveNow_14 : decode b_M_giveNow 14 = .ok (.iconst 0, 1) := by decide +kernel
theorem d_M_giveNow_15 : decode b_M_giveNow 15 = .ok (.putfield 179, 3) := by decide +kernel
theorem d_M_giveNow_18 : decode b_M_giveNow 18 = .ok (.return_, 1) := by decide +kernel
theorem d_M_endWord_0 : decode b_M_endWord 0 = .ok (.aload_n 0, 1) := by decide +kernel
theorem d_M_endWord_1 : decode b_M_endWord 1 = .ok (.getfield 186, 3) := by decide +kernel
theorem d_M_endWord_4 : decode b_M_endWord 4 = .ok (.ifCond .ne (4), 3) := by decide +kernel
theorem d_M_endWord_7 : decode b_M_endWord 7 = .ok (.return_, 1) := by decide +kernel
theorem d_M_endWord_8 : decode b_M_endWord 8 = .ok (.iconst 0, 1) := by decide +kernel
theorem d_M_endWord_9 : decode b_M_endWord 9 = .ok (.istore_n 1, 1) := by decide +kernel
theorem d_M_endWord_10 : decode b_M_endWord 10 = .ok (.aload_n 0, 1) := by decide +kernel
theorem d_M_endWord_11 : decode b_M_endWord 11 = .ok (.getfield 179, 3) := by decide +kernel
theorem d_M_endWord_14 : decode b_M_endWord 14 = .ok (.ifCond .le (45), 3) := by decide +kernel
theorem d_M_endWord_17 : decode b_M_endWord 17 = .ok (.aload_n 0, 1) := by decide +kernel
theorem d_M_endWord_18 : decode b_M_endWord 18 = .ok (.getfield 179, 3) := by decide +kernel
theorem d_M_endWord_21 : decode b_M_endWord 21 = .ok (.iconst 1, 1) := by decide +kernel
theorem d_M_endWord_22 : decode b_M_endWord 22 = .ok (.iadd, 1) := by decide +kernel
theorem d_M_endWord_23 : decode b_M_endWord 23 = .ok (.aload_n 0, 1) := by decide +kernel
theorem d_M_endWord_24 : decode b_M_endWord 24 = .ok (.getfield 186, 3) := by decide +kernel
theorem d_M_endWord_27 : decode b_M_endWord 27 = .ok (.iadd, 1) := by decide +kernel
theorem d_M_endWord_28 : decode b_M_endWord 28 = .ok (.aload_n 0, 1) := by decide +kernel
theorem d_M_endWord_29 : decode b_M_endWord 29 = .ok (.getfield 189, 3) := by decide +kernel
theorem d_M_endWord_32 : decode b_M_endWord 32 = .ok (.if_icmp .gt (27), 3) := by decide +kernel
theorem d_M_endWord_35 : decode b_M_endWord 35 = .ok (.aload_n 0, 1) := by decide +kernel
theorem d_M_endWord_36 : decode b_M_endWord 36 = .ok (.getfield 88, 3) := by decide +kernel
theorem d_M_endWord_39 : decode b_M_endWord 39 = .ok (.aload_n 0, 1) := by decide +kernel
theorem d_M_endWord_40 : decode b_M_endWord 40 = .ok (.getfield 179, 3) := by decide +kernel
theorem d_M_endWord_43 : decode b_M_endWord 43 = .ok (.bipush (32), 2) := by decide +kernel
theorem d_M_endWord_45 : decode b_M_endWord 45 = .ok (.iastore, 1) := by decide +kernel
theorem d_M_endWord_46 : decode b_M_endWord 46 = .ok (.aload_n 0, 1) := by decide +kernel
theorem d_M_endWord_47 : decode b_M_endWord 47 = .ok (.dup, 1) := by decide +kernel
theorem d_M_endWord_48 : decode b_M_endWord 48 = .ok (.getfield 179, 3) := by decide +kernel
theorem d_M_endWord_51 : decode b_M_endWord 51 = .ok (.iconst 1, 1) := by decide +kernel
theorem d_M_endWord_52 : decode b_M_endWord 52 = .ok (.iadd, 1) := by decide +kernel
theorem d_M_endWord_53 : decode b_M_endWord 53 = .ok (.putfield 179, 3) := by decide +kernel
theorem d_M_endWord_56 : decode b_M_endWord 56 = .ok (.goto (50), 3) := by decide +kernel
theorem d_M_endWord_59 : decode b_M_endWord 59 = .ok (.aload_n 0, 1) := by decide +kernel
theorem d_M_endWord_60 : decode b_M_endWord 60 = .ok (.getfield 179, 3) := by decide +kernel
theorem d_M_endWord_63 : decode b_M_endWord 63 = .ok (.ifCond .le (7), 3) := by decide +kernel
theorem d_M_endWord_66 : decode b_M_endWord 66 = .ok (.aload_n 0, 1) := by decide +kernel
theorem d_M_endWord_67 : decode b_M_endWord 67 = .ok (.invokevirtual 192, 3) := by decide +kernel
theorem d_M_endWord_70 : decode b_M_endWord 70 = .ok (.aload_n 0, 1) := by decide +kernel
theorem d_M_endWord_71 : decode b_M_endWord 71 = .ok (.getfield 186, 3) := by decide +kernel
theorem d_M_endWord_74 : decode b_M_endWord 74 = .ok (.iload_n 1, 1) := by decide +kernel
theorem d_M_endWord_75 : decode b_M_endWord 75 = .ok (.isub, 1) := by decide +kernel
theorem d_M_endWord_76 : decode b_M_endWord 76 = .ok (.aload_n 0, 1) := by decide +kernel
theorem d_M_endWord_77 : decode b_M_endWord 77 = .ok (.getfield 189, 3) := by decide +kernel
theorem d_M_endWord_80 : decode b_M_endWord 80 = .ok (.if_icmp .le (26), 3) := by decide +kernel
theorem d_M_endWord_83 : decode b_M_endWord 83 = .ok (.aload_n 0, 1) := by decide +kernel
theorem d_M_endWord_84 : decode b_M_endWord 84 = .ok (.aload_n 0, 1) := by decide +kernel
theorem d_M_endWord_85 : decode b_M_endWord 85 = .ok (.getfield 85, 3) := by decide +kernel
theorem d_M_endWord_88 : decode b_M_endWord 88 = .ok (.iload_n 1, 1) := by decide +kernel
theorem d_M_endWord_89 : decode b_M_endWord 89 = .ok (.aload_n 0, 1) := by decide +kernel
theorem d_M_endWord_90 : decode b_M_endWord 90 = .ok (.getfield 189, 3) := by decide +kernel
theorem d_M_endWord_93 : decode b_M_endWord 93 = .ok (.invokevirtual 182, 3) := by decide +kernel
theorem d_M_endWord_96 : decode b_M_endWord 96 = .ok (.iload_n 1, 1) := by decide +kernel
theorem d_M_endWord_97 : decode b_M_endWord 97 = .ok (.aload_n 0, 1) := by decide +kernel
theorem d_M_endWord_98 : decode b_M_endWord 98 = .ok (.getfield 189, 3) := by decide +kernel
theorem d_M_endWord_101 : decode b_M_endWord 101 = .ok (.iadd, 1) := by decide +kernel
theorem d_M_endWord_102 : decode b_M_endWord 102 = .ok (.istore_n 1, 1) := by decide +kernel
theorem d_M_endWord_103 : decode b_M_endWord 103 = .ok (.goto (-33), 3) := by decide +kernel
theorem d_M_endWord_106 : decode b_M_endWord 106 = .ok (.iload_n 1, 1) := by decide +kernel
theorem d_M_endWord_107 : decode b_M_endWord 107 = .ok (.aload_n 0, 1) := by decide +kernel
theorem d_M_endWord_108 : decode b_M_endWord 108 = .ok (.getfield 186, 3) := by decide +kernel
theorem d_M_endWord_111 : decode b_M_endWord 111 = .ok (.if_icmp .ge (34), 3) := by decide +kernel
theorem d_M_endWord_114 : decode b_M_endWord 114 = .ok (.aload_n 0, 1) := by decide +kernel
theorem d_M_endWord_115 : decode b_M_endWord 115 = .ok (.getfield 88, 3) := by decide +kernel
theorem d_M_endWord_118 : decode b_M_endWord 118 = .ok (.aload_n 0, 1) := by decide +kernel
theorem d_M_endWord_119 : decode b_M_endWord 119 = .ok (.getfield 179, 3) := by decide +kernel
theorem d_M_endWord_122 : decode b_M_endWord 122 = .ok (.aload_n 0, 1) := by decide +kernel
theorem d_M_endWord_123 : decode b_M_endWord 123 = .ok (.getfield 85, 3) := by decide +kernel
theorem d_M_endWord_126 : decode b_M_endWord 126 = .ok (.iload_n 1, 1) := by decide +kernel
theorem d_M_endWord_127 : decode b_M_endWord 127 = .ok (.iaload, 1) := by decide +kernel
theorem d_M_endWord_128 : decode b_M_endWord 128 = .ok (.iastore, 1) := by decide +kernel
theorem d_M_endWord_129 : decode b_M_endWord 129 = .ok (.aload_n 0, 1) := by decide +kernel
theorem d_M_endWord_130 : decode b_M_endWord 130 = .ok (.dup, 1) := by decide +kernel
theorem d_M_endWord_131 : decode b_M_endWord 131 = .ok (.getfield 179, 3) := by decide +kernel
theorem d_M_endWord_134 : decode b_M_endWord 134 = .ok (.iconst 1, 1) := by decide +kernel
theorem d_M_endWord_135 : decode b_M_endWord 135 = .ok (.iadd, 1) := by decide +kernel
theorem d_M_endWord_136 : decode b_M_endWord 136 = .ok (.putfield 179, 3) := by decide +kernel
theorem d_M_endWord_139 : decode b_M_endWord 139 = .ok (.iinc 1 (1), 3) := by decide +kernel
theorem d_M_endWord_142 : decode b_M_endWord 142 = .ok (.goto (-36), 3) := by decide +kernel
theorem d_M_endWord_145 : decode b_M_endWord 145 = .ok (.aload_n 0, 1) := by decide +kernel
theorem d_M_endWord_146 : decode b_M_endWord 146 = .ok (.iconst 0, 1) := by decide +kernel
theorem d_M_endWord_147 : decode b_M_endWord 147 = .ok (.putfield 186, 3) := by decide +kernel
theorem d_M_endWord_150 : decode b_M_endWord 150 = .ok (.return_, 1) := by decide +kernel
theorem d_M_hear_0 : decode b_M_hear 0 = .ok (.iload_n 1, 1) := by decide +kernel
theorem d_M_hear_1 : decode b_M_hear 1 = .ok (.bipush (9), 2) := by decide +kernel
theorem d_M_hear_3 : decode b_M_hear 3 = .ok (.if_icmp .eq (21), 3) := by decide +kernel
theorem d_M_hear_6 : decode b_M_hear 6 = .ok (.iload_n 1, 1) := by decide +kernel
theorem d_M_hear_7 : decode b_M_hear 7 = .ok (.bipush (10), 2) := by decide +kernel
theorem d_M_hear_9 : decode b_M_hear 9 = .ok (.if_icmp .eq (15), 3) := by decide +kernel
theorem d_M_hear_12 : decode b_M_hear 12 = .ok (.iload_n 1, 1) := by decide +kernel
theorem d_M_hear_13 : decode b_M_hear 13 = .ok (.bipush (13), 2) := by decide +kernel
theorem d_M_hear_15 : decode b_M_hear 15 = .ok (.if_icmp .eq (9), 3) := by decide +kernel
theorem d_M_hear_18 : decode b_M_hear 18 = .ok (.iload_n 1, 1) := by decide +kernel
theorem d_M_hear_19 : decode b_M_hear 19 = .ok (.bipush (32), 2) := by decide +kernel
theorem d_M_hear_21 : decode b_M_hear 21 = .ok (.if_icmp .ne (10), 3) := by decide +kernel
theorem d_M_hear_24 : decode b_M_hear 24 = .ok (.aload_n 0, 1) := by decide +kernel
theorem d_M_hear_25 : decode b_M_hear 25 = .ok (.invokevirtual 195, 3) := by decide +kernel
theorem d_M_hear_28 : decode b_M_hear 28 = .ok (.goto (23), 3) := by decide +kernel
theorem d_M_hear_31 : decode b_M_hear 31 = .ok (.aload_n 0, 1) := by decide +kernel
theorem d_M_hear_32 : decode b_M_hear 32 = .ok (.getfield 85, 3) := by decide +kernel
theorem d_M_hear_35 : decode b_M_hear 35 = .ok (.aload_n 0, 1) := by decide +kernel
theorem d_M_hear_36 : decode b_M_hear 36 = .ok (.getfield 186, 3) := by decide +kernel
theorem d_M_hear_39 : decode b_M_hear 39 = .ok (.iload_n 1, 1) := by decide +kernel
theorem d_M_hear_40 : decode b_M_hear 40 = .ok (.iastore, 1) := by decide +kernel
theorem d_M_hear_41 : decode b_M_hear 41 = .ok (.aload_n 0, 1) := by decide +kernel
theorem d_M_hear_42 : decode b_M_hear 42 = .ok (.dup, 1) := by decide +kernel
theorem d_M_hear_43 : decode b_M_hear 43 = .ok (.getfield 186, 3) := by decide +kernel
theorem d_M_hear_46 : decode b_M_hear 46 = .ok (.iconst 1, 1) := by decide +kernel
theorem d_M_hear_47 : decode b_M_hear 47 = .ok (.iadd, 1) := by decide +kernel
theorem d_M_hear_48 : decode b_M_hear 48 = .ok (.putfield 186, 3) := by decide +kernel
theorem d_M_hear_51 : decode b_M_hear 51 = .ok (.return_, 1) := by decide +kernel
theorem d_M_beginLeaf_0 : decode b_M_beginLeaf 0 = .ok (.aload_n 0, 1) := by decide +kernel
theorem d_M_beginLeaf_1 : decode b_M_beginLeaf 1 = .ok (.getfield 82, 3) := by decide +kernel
theorem d_M_beginLeaf_4 : decode b_M_beginLeaf 4 = .ok (.aload_n 0, 1) := by decide +kernel
