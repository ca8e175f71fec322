theorem d_M_node_97 : decode b_M_node 97 = .ok (.aload_n 0, 1) := by decide +kernel
theorem d_M_node_98 : decode b_M_node 98 = .ok (.getfield 16, 3) := by decide +kernel
theorem d_M_node_101 : decode b_M_node 101 = .ok (.iload_n 1, 1) := by decide +kernel
theorem d_M_node_102 : decode b_M_node 102 = .ok (.iaload, 1) := by decide +kernel
theorem d_M_node_103 : decode b_M_node 103 = .ok (.ireturn, 1) := by decide +kernel
theorem d_M_node_104 : decode b_M_node 104 = .ok (.iconst (-1), 1) := by decide +kernel
theorem d_M_node_105 : decode b_M_node 105 = .ok (.ireturn, 1) := by decide +kernel
theorem d_M_about_0 : decode b_M_about 0 = .ok (.aload_n 0, 1) := by decide +kernel
theorem d_M_about_1 : decode b_M_about 1 = .ok (.iconst 0, 1) := by decide +kernel
theorem d_M_about_2 : decode b_M_about 2 = .ok (.putfield 97, 3) := by decide +kernel
theorem d_M_about_5 : decode b_M_about 5 = .ok (.iload_n 1, 1) := by decide +kernel
theorem d_M_about_6 : decode b_M_about 6 = .ok (.tableswitch (99) (0) (6) #[42, 47, 52, 57, 62, 78, 83], 42) := by decide +kernel
theorem d_M_about_48 : decode b_M_about 48 = .ok (.aload_n 0, 1) := by decide +kernel
theorem d_M_about_49 : decode b_M_about 49 = .ok (.getfield 101, 3) := by decide +kernel
theorem d_M_about_52 : decode b_M_about 52 = .ok (.ireturn, 1) := by decide +kernel
theorem d_M_about_53 : decode b_M_about 53 = .ok (.aload_n 0, 1) := by decide +kernel
theorem d_M_about_54 : decode b_M_about 54 = .ok (.getfield 104, 3) := by decide +kernel
theorem d_M_about_57 : decode b_M_about 57 = .ok (.ireturn, 1) := by decide +kernel
theorem d_M_about_58 : decode b_M_about 58 = .ok (.aload_n 0, 1) := by decide +kernel
theorem d_M_about_59 : decode b_M_about 59 = .ok (.getfield 107, 3) := by decide +kernel
theorem d_M_about_62 : decode b_M_about 62 = .ok (.ireturn, 1) := by decide +kernel
theorem d_M_about_63 : decode b_M_about 63 = .ok (.aload_n 0, 1) := by decide +kernel
theorem d_M_about_64 : decode b_M_about 64 = .ok (.getfield 110, 3) := by decide +kernel
theorem d_M_about_67 : decode b_M_about 67 = .ok (.ireturn, 1) := by decide +kernel
theorem d_M_about_68 : decode b_M_about 68 = .ok (.aload_n 0, 1) := by decide +kernel
theorem d_M_about_69 : decode b_M_about 69 = .ok (.getfield 110, 3) := by decide +kernel
theorem d_M_about_72 : decode b_M_about 72 = .ok (.ifCond .le (10), 3) := by decide +kernel
theorem d_M_about_75 : decode b_M_about 75 = .ok (.aload_n 0, 1) := by decide +kernel
theorem d_M_about_76 : decode b_M_about 76 = .ok (.getfield 113, 3) := by decide +kernel
theorem d_M_about_79 : decode b_M_about 79 = .ok (.goto (4), 3) := by decide +kernel
theorem d_M_about_82 : decode b_M_about 82 = .ok (.iconst 0, 1) := by decide +kernel
theorem d_M_about_83 : decode b_M_about 83 = .ok (.ireturn, 1) := by decide +kernel
theorem d_M_about_84 : decode b_M_about 84 = .ok (.aload_n 0, 1) := by decide +kernel
theorem d_M_about_85 : decode b_M_about 85 = .ok (.getfield 116, 3) := by decide +kernel
theorem d_M_about_88 : decode b_M_about 88 = .ok (.ireturn, 1) := by decide +kernel
theorem d_M_about_89 : decode b_M_about 89 = .ok (.aload_n 0, 1) := by decide +kernel
theorem d_M_about_90 : decode b_M_about 90 = .ok (.getfield 110, 3) := by decide +kernel
theorem d_M_about_93 : decode b_M_about 93 = .ok (.ifCond .le (10), 3) := by decide +kernel
theorem d_M_about_96 : decode b_M_about 96 = .ok (.aload_n 0, 1) := by decide +kernel
theorem d_M_about_97 : decode b_M_about 97 = .ok (.getfield 119, 3) := by decide +kernel
theorem d_M_about_100 : decode b_M_about 100 = .ok (.goto (4), 3) := by decide +kernel
theorem d_M_about_103 : decode b_M_about 103 = .ok (.iconst 0, 1) := by decide +kernel
theorem d_M_about_104 : decode b_M_about 104 = .ok (.ireturn, 1) := by decide +kernel
theorem d_M_about_105 : decode b_M_about 105 = .ok (.iconst (-1), 1) := by decide +kernel
theorem d_M_about_106 : decode b_M_about 106 = .ok (.ireturn, 1) := by decide +kernel
theorem d_M_clear_0 : decode b_M_clear 0 = .ok (.aload_n 0, 1) := by decide +kernel
theorem d_M_clear_1 : decode b_M_clear 1 = .ok (.iconst 0, 1) := by decide +kernel
theorem d_M_clear_2 : decode b_M_clear 2 = .ok (.putfield 97, 3) := by decide +kernel
theorem d_M_clear_5 : decode b_M_clear 5 = .ok (.aload_n 0, 1) := by decide +kernel
theorem d_M_clear_6 : decode b_M_clear 6 = .ok (.invokevirtual 94, 3) := by decide +kernel
theorem d_M_clear_9 : decode b_M_clear 9 = .ok (.return_, 1) := by decide +kernel
theorem d_M_pages_0 : decode b_M_pages 0 = .ok (.aload_n 0, 1) := by decide +kernel
theorem d_M_pages_1 : decode b_M_pages 1 = .ok (.iload_n 1, 1) := by decide +kernel
theorem d_M_pages_2 : decode b_M_pages 2 = .ok (.iconst 5, 1) := by decide +kernel
theorem d_M_pages_3 : decode b_M_pages 3 = .ok (.if_icmp .lt (21), 3) := by decide +kernel
theorem d_M_pages_6 : decode b_M_pages 6 = .ok (.iload_n 1, 1) := by decide +kernel
theorem d_M_pages_7 : decode b_M_pages 7 = .ok (.bipush (40), 2) := by decide +kernel
theorem d_M_pages_9 : decode b_M_pages 9 = .ok (.if_icmp .gt (15), 3) := by decide +kernel
theorem d_M_pages_12 : decode b_M_pages 12 = .ok (.iload_n 2, 1) := by decide +kernel
theorem d_M_pages_13 : decode b_M_pages 13 = .ok (.bipush (8), 2) := by decide +kernel
theorem d_M_pages_15 : decode b_M_pages 15 = .ok (.if_icmp .lt (9), 3) := by decide +kernel
theorem d_M_pages_18 : decode b_M_pages 18 = .ok (.iload_n 2, 1) := by decide +kernel
theorem d_M_pages_19 : decode b_M_pages 19 = .ok (.bipush (60), 2) := by decide +kernel
theorem d_M_pages_21 : decode b_M_pages 21 = .ok (.if_icmp .le (7), 3) := by decide +kernel
theorem d_M_pages_24 : decode b_M_pages 24 = .ok (.iconst 1, 1) := by decide +kernel
theorem d_M_pages_25 : decode b_M_pages 25 = .ok (.goto (4), 3) := by decide +kernel
theorem d_M_pages_28 : decode b_M_pages 28 = .ok (.iconst 0, 1) := by decide +kernel
theorem d_M_pages_29 : decode b_M_pages 29 = .ok (.putfield 97, 3) := by decide +kernel
theorem d_M_pages_32 : decode b_M_pages 32 = .ok (.aload_n 0, 1) := by decide +kernel
theorem d_M_pages_33 : decode b_M_pages 33 = .ok (.getfield 97, 3) := by decide +kernel
theorem d_M_pages_36 : decode b_M_pages 36 = .ok (.ifCond .le (5), 3) := by decide +kernel
theorem d_M_pages_39 : decode b_M_pages 39 = .ok (.iconst 0, 1) := by decide +kernel
theorem d_M_pages_40 : decode b_M_pages 40 = .ok (.ireturn, 1) := by decide +kernel
theorem d_M_pages_41 : decode b_M_pages 41 = .ok (.aload_n 0, 1) := by decide +kernel
theorem d_M_pages_42 : decode b_M_pages 42 = .ok (.getfield 119, 3) := by decide +kernel
theorem d_M_pages_45 : decode b_M_pages 45 = .ok (.istore_n 3, 1) := by decide +kernel
theorem d_M_pages_46 : decode b_M_pages 46 = .ok (.aload_n 0, 1) := by decide +kernel
theorem d_M_pages_47 : decode b_M_pages 47 = .ok (.iload_n 2, 1) := by decide +kernel
theorem d_M_pages_48 : decode b_M_pages 48 = .ok (.putfield 119, 3) := by decide +kernel
theorem d_M_pages_51 : decode b_M_pages 51 = .ok (.aload_n 0, 1) := by decide +kernel
theorem d_M_pages_52 : decode b_M_pages 52 = .ok (.iconst 1, 1) := by decide +kernel
theorem d_M_pages_53 : decode b_M_pages 53 = .ok (.putfield 162, 3) := by decide +kernel
theorem d_M_pages_56 : decode b_M_pages 56 = .ok (.aload_n 0, 1) := by decide +kernel
theorem d_M_pages_57 : decode b_M_pages 57 = .ok (.invokevirtual 232, 3) := by decide +kernel
theorem d_M_pages_60 : decode b_M_pages 60 = .ok (.aload_n 0, 1) := by decide +kernel
theorem d_M_pages_61 : decode b_M_pages 61 = .ok (.aload_n 0, 1) := by decide +kernel
theorem d_M_pages_62 : decode b_M_pages 62 = .ok (.getfield 159, 3) := by decide +kernel
theorem d_M_pages_65 : decode b_M_pages 65 = .ok (.sipush (1500), 3) := by decide +kernel
theorem d_M_pages_68 : decode b_M_pages 68 = .ok (.if_icmp .le (7), 3) := by decide +kernel
theorem d_M_pages_71 : decode b_M_pages 71 = .ok (.iconst 2, 1) := by decide +kernel
theorem d_M_pages_72 : decode b_M_pages 72 = .ok (.goto (4), 3) := by decide +kernel
theorem d_M_pages_75 : decode b_M_pages 75 = .ok (.iconst 0, 1) := by decide +kernel
theorem d_M_pages_76 : decode b_M_pages 76 = .ok (.putfield 97, 3) := by decide +kernel
theorem d_M_pages_79 : decode b_M_pages 79 = .ok (.aload_n 0, 1) := by decide +kernel
theorem d_M_pages_80 : decode b_M_pages 80 = .ok (.getfield 97, 3) := by decide +kernel
theorem d_M_pages_83 : decode b_M_pages 83 = .ok (.ifCond .le (10), 3) := by decide +kernel
theorem d_M_pages_86 : decode b_M_pages 86 = .ok (.aload_n 0, 1) := by decide +kernel
theorem d_M_pages_87 : decode b_M_pages 87 = .ok (.iload_n 3, 1) := by decide +kernel
theorem d_M_pages_88 : decode b_M_pages 88 = .ok (.putfield 119, 3) := by decide +kernel
theorem d_M_pages_91 : decode b_M_pages 91 = .ok (.iconst 0, 1) := by decide +kernel
theorem d_M_pages_92 : decode b_M_pages 92 = .ok (.ireturn, 1) := by decide +kernel
theorem d_M_pages_93 : decode b_M_pages 93 = .ok (.aload_n 0, 1) := by decide +kernel
theorem d_M_pages_94 : decode b_M_pages 94 = .ok (.iconst 0, 1) := by decide +kernel
theorem d_M_pages_95 : decode b_M_pages 95 = .ok (.putfield 162, 3) := by decide +kernel
theorem d_M_pages_98 : decode b_M_pages 98 = .ok (.aload_n 0, 1) := by decide +kernel
theorem d_M_pages_99 : decode b_M_pages 99 = .ok (.invokevirtual 232, 3) := by decide +kernel
theorem d_M_pages_102 : decode b_M_pages 102 = .ok (.aload_n 0, 1) := by decide +kernel
theorem d_M_pages_103 : decode b_M_pages 103 = .ok (.aload_n 0, 1) := by decide +kernel
theorem d_M_pages_104 : decode b_M_pages 104 = .ok (.getfield 159, 3) := by decide +kernel
theorem d_M_pages_107 : decode b_M_pages 107 = .ok (.putfield 113, 3) := by decide +kernel
theorem d_M_pages_110 : decode b_M_pages 110 = .ok (.aload_n 0, 1) := by decide +kernel
theorem d_M_pages_111 : decode b_M_pages 111 = .ok (.iload_n 1, 1) := by decide +kernel
theorem d_M_pages_112 : decode b_M_pages 112 = .ok (.putfield 116, 3) := by decide +kernel
theorem d_M_pages_115 : decode b_M_pages 115 = .ok (.aload_n 0, 1) := by decide +kernel
theorem d_M_pages_116 : decode b_M_pages 116 = .ok (.aload_n 0, 1) := by decide +kernel
theorem d_M_pages_117 : decode b_M_pages 117 = .ok (.getfield 101, 3) := by decide +kernel
theorem d_M_pages_120 : decode b_M_pages 120 = .ok (.putfield 122, 3) := by decide +kernel
theorem d_M_pages_123 : decode b_M_pages 123 = .ok (.aload_n 0, 1) := by decide +kernel
theorem d_M_pages_124 : decode b_M_pages 124 = .ok (.aload_n 0, 1) := by decide +kernel
theorem d_M_pages_125 : decode b_M_pages 125 = .ok (.invokevirtual 235, 3) := by decide +kernel
theorem d_M_pages_128 : decode b_M_pages 128 = .ok (.putfield 110, 3) := by decide +kernel
theorem d_M_pages_131 : decode b_M_pages 131 = .ok (.iconst 0, 1) := by decide +kernel
theorem d_M_pages_132 : decode b_M_pages 132 = .ok (.istore 4, 2) := by decide +kernel
theorem d_M_pages_134 : decode b_M_pages 134 = .ok (.iload 4, 2) := by decide +kernel
theorem d_M_pages_136 : decode b_M_pages 136 = .ok (.aload_n 0, 1) := by decide +kernel
theorem d_M_pages_137 : decode b_M_pages 137 = .ok (.getfield 101, 3) := by decide +kernel
theorem d_M_pages_140 : decode b_M_pages 140 = .ok (.if_icmp .ge (108), 3) := by decide +kernel
theorem d_M_pages_143 : decode b_M_pages 143 = .ok (.aload_n 0, 1) := by decide +kernel
theorem d_M_pages_144 : decode b_M_pages 144 = .ok (.getfield 58, 3) := by decide +kernel
theorem d_M_pages_147 : decode b_M_pages 147 = .ok (.iload 4, 2) := by decide +kernel
theorem d_M_pages_149 : decode b_M_pages 149 = .ok (.iaload, 1) := by decide +kernel
theorem d_M_pages_150 : decode b_M_pages 150 = .ok (.ifCond .lt (13), 3) := by decide +kernel
theorem d_M_pages_153 : decode b_M_pages 153 = .ok (.aload_n 0, 1) := by decide +kernel
theorem d_M_pages_154 : decode b_M_pages 154 = .ok (.getfield 58, 3) := by decide +kernel
theorem d_M_pages_157 : decode b_M_pages 157 = .ok (.iload 4, 2) := by decide +kernel
theorem d_M_pages_159 : decode b_M_pages 159 = .ok (.iaload, 1) := by decide +kernel
theorem d_M_pages_160 : decode b_M_pages 160 = .ok (.goto (13), 3) := by decide +kernel
theorem d_M_pages_163 : decode b_M_pages 163 = .ok (.bipush (-2), 2) := by decide +kernel
theorem d_M_pages_165 : decode b_M_pages 165 = .ok (.aload_n 0, 1) := by decide +kernel
theorem d_M_pages_166 : decode b_M_pages 166 = .ok (.getfield 58, 3) := by decide +kernel
theorem d_M_pages_169 : decode b_M_pages 169 = .ok (.iload 4, 2) := by decide +kernel
theorem d_M_pages_171 : decode b_M_pages 171 = .ok (.iaload, 1) := by decide +kernel
theorem d_M_pages_172 : decode b_M_pages 172 = .ok (.isub, 1) := by decide +kernel
theorem d_M_pages_173 : decode b_M_pages 173 = .ok (.istore 5, 2) := by decide +kernel
theorem d_M_pages_175 : decode b_M_pages 175 = .ok (.iload 5, 2) := by decide +kernel
theorem d_M_pages_177 : decode b_M_pages 177 = .ok (.aload_n 0, 1) := by decide +kernel
theorem d_M_pages_178 : decode b_M_pages 178 = .ok (.getfield 113, 3) := by decide +kernel
theorem d_M_pages_181 : decode b_M_pages 181 = .ok (.if_icmp .ge (29), 3) := by decide +kernel
theorem d_M_pages_184 : decode b_M_pages 184 = .ok (.aload_n 0, 1) := by decide +kernel
theorem d_M_pages_185 : decode b_M_pages 185 = .ok (.getfield 41, 3) := by decide +kernel
