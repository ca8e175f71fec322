theorem d_M_add_34 : decode b_M_add 34 = .ok (.aload_n 0, 1) := by decide +kernel
theorem d_M_add_35 : decode b_M_add 35 = .ok (.getfield 19, 3) := by decide +kernel
theorem d_M_add_38 : decode b_M_add 38 = .ok (.aload_n 0, 1) := by decide +kernel
theorem d_M_add_39 : decode b_M_add 39 = .ok (.getfield 107, 3) := by decide +kernel
theorem d_M_add_42 : decode b_M_add 42 = .ok (.iaload, 1) := by decide +kernel
theorem d_M_add_43 : decode b_M_add 43 = .ok (.iconst 1, 1) := by decide +kernel
theorem d_M_add_44 : decode b_M_add 44 = .ok (.iadd, 1) := by decide +kernel
theorem d_M_add_45 : decode b_M_add 45 = .ok (.iastore, 1) := by decide +kernel
theorem d_M_add_46 : decode b_M_add 46 = .ok (.aload_n 0, 1) := by decide +kernel
theorem d_M_add_47 : decode b_M_add 47 = .ok (.getfield 22, 3) := by decide +kernel
theorem d_M_add_50 : decode b_M_add 50 = .ok (.iload_n 3, 1) := by decide +kernel
theorem d_M_add_51 : decode b_M_add 51 = .ok (.aload_n 0, 1) := by decide +kernel
theorem d_M_add_52 : decode b_M_add 52 = .ok (.getfield 104, 3) := by decide +kernel
theorem d_M_add_55 : decode b_M_add 55 = .ok (.iastore, 1) := by decide +kernel
theorem d_M_add_56 : decode b_M_add 56 = .ok (.aload_n 0, 1) := by decide +kernel
theorem d_M_add_57 : decode b_M_add 57 = .ok (.getfield 25, 3) := by decide +kernel
theorem d_M_add_60 : decode b_M_add 60 = .ok (.iload_n 3, 1) := by decide +kernel
theorem d_M_add_61 : decode b_M_add 61 = .ok (.iconst 0, 1) := by decide +kernel
theorem d_M_add_62 : decode b_M_add 62 = .ok (.iastore, 1) := by decide +kernel
theorem d_M_add_63 : decode b_M_add 63 = .ok (.aload_n 0, 1) := by decide +kernel
theorem d_M_add_64 : decode b_M_add 64 = .ok (.getfield 28, 3) := by decide +kernel
theorem d_M_add_67 : decode b_M_add 67 = .ok (.iload_n 3, 1) := by decide +kernel
theorem d_M_add_68 : decode b_M_add 68 = .ok (.iconst (-1), 1) := by decide +kernel
theorem d_M_add_69 : decode b_M_add 69 = .ok (.iastore, 1) := by decide +kernel
theorem d_M_add_70 : decode b_M_add 70 = .ok (.aload_n 0, 1) := by decide +kernel
theorem d_M_add_71 : decode b_M_add 71 = .ok (.getfield 28, 3) := by decide +kernel
theorem d_M_add_74 : decode b_M_add 74 = .ok (.aload_n 0, 1) := by decide +kernel
theorem d_M_add_75 : decode b_M_add 75 = .ok (.getfield 107, 3) := by decide +kernel
theorem d_M_add_78 : decode b_M_add 78 = .ok (.iload_n 3, 1) := by decide +kernel
theorem d_M_add_79 : decode b_M_add 79 = .ok (.iastore, 1) := by decide +kernel
theorem d_M_add_80 : decode b_M_add 80 = .ok (.aload_n 0, 1) := by decide +kernel
theorem d_M_add_81 : decode b_M_add 81 = .ok (.dup, 1) := by decide +kernel
theorem d_M_add_82 : decode b_M_add 82 = .ok (.getfield 101, 3) := by decide +kernel
theorem d_M_add_85 : decode b_M_add 85 = .ok (.iconst 1, 1) := by decide +kernel
theorem d_M_add_86 : decode b_M_add 86 = .ok (.iadd, 1) := by decide +kernel
theorem d_M_add_87 : decode b_M_add 87 = .ok (.putfield 101, 3) := by decide +kernel
theorem d_M_add_90 : decode b_M_add 90 = .ok (.iload_n 3, 1) := by decide +kernel
theorem d_M_add_91 : decode b_M_add 91 = .ok (.ireturn, 1) := by decide +kernel
theorem d_M_end_0 : decode b_M_end 0 = .ok (.aload_n 0, 1) := by decide +kernel
theorem d_M_end_1 : decode b_M_end 1 = .ok (.iconst 0, 1) := by decide +kernel
theorem d_M_end_2 : decode b_M_end 2 = .ok (.putfield 97, 3) := by decide +kernel
theorem d_M_end_5 : decode b_M_end 5 = .ok (.aload_n 0, 1) := by decide +kernel
theorem d_M_end_6 : decode b_M_end 6 = .ok (.getfield 107, 3) := by decide +kernel
theorem d_M_end_9 : decode b_M_end 9 = .ok (.ifCond .ne (5), 3) := by decide +kernel
theorem d_M_end_12 : decode b_M_end 12 = .ok (.iconst (-1), 1) := by decide +kernel
theorem d_M_end_13 : decode b_M_end 13 = .ok (.ireturn, 1) := by decide +kernel
theorem d_M_end_14 : decode b_M_end 14 = .ok (.aload_n 0, 1) := by decide +kernel
theorem d_M_end_15 : decode b_M_end 15 = .ok (.aload_n 0, 1) := by decide +kernel
theorem d_M_end_16 : decode b_M_end 16 = .ok (.getfield 13, 3) := by decide +kernel
theorem d_M_end_19 : decode b_M_end 19 = .ok (.aload_n 0, 1) := by decide +kernel
theorem d_M_end_20 : decode b_M_end 20 = .ok (.getfield 107, 3) := by decide +kernel
theorem d_M_end_23 : decode b_M_end 23 = .ok (.iaload, 1) := by decide +kernel
theorem d_M_end_24 : decode b_M_end 24 = .ok (.putfield 107, 3) := by decide +kernel
theorem d_M_end_27 : decode b_M_end 27 = .ok (.aload_n 0, 1) := by decide +kernel
theorem d_M_end_28 : decode b_M_end 28 = .ok (.getfield 107, 3) := by decide +kernel
theorem d_M_end_31 : decode b_M_end 31 = .ok (.ireturn, 1) := by decide +kernel
theorem d_M_begin_0 : decode b_M_begin 0 = .ok (.iload_n 1, 1) := by decide +kernel
theorem d_M_begin_1 : decode b_M_begin 1 = .ok (.ifCond .lt (61), 3) := by decide +kernel
theorem d_M_begin_4 : decode b_M_begin 4 = .ok (.iload_n 1, 1) := by decide +kernel
theorem d_M_begin_5 : decode b_M_begin 5 = .ok (.bipush (9), 2) := by decide +kernel
theorem d_M_begin_7 : decode b_M_begin 7 = .ok (.if_icmp .gt (55), 3) := by decide +kernel
theorem d_M_begin_10 : decode b_M_begin 10 = .ok (.aload_n 0, 1) := by decide +kernel
theorem d_M_begin_11 : decode b_M_begin 11 = .ok (.getfield 7, 3) := by decide +kernel
theorem d_M_begin_14 : decode b_M_begin 14 = .ok (.aload_n 0, 1) := by decide +kernel
theorem d_M_begin_15 : decode b_M_begin 15 = .ok (.getfield 107, 3) := by decide +kernel
theorem d_M_begin_18 : decode b_M_begin 18 = .ok (.iaload, 1) := by decide +kernel
theorem d_M_begin_19 : decode b_M_begin 19 = .ok (.iload_n 1, 1) := by decide +kernel
theorem d_M_begin_20 : decode b_M_begin 20 = .ok (.invokestatic 132, 3) := by decide +kernel
theorem d_M_begin_23 : decode b_M_begin 23 = .ok (.ifCond .eq (39), 3) := by decide +kernel
theorem d_M_begin_26 : decode b_M_begin 26 = .ok (.iload_n 1, 1) := by decide +kernel
theorem d_M_begin_27 : decode b_M_begin 27 = .ok (.iconst 1, 1) := by decide +kernel
theorem d_M_begin_28 : decode b_M_begin 28 = .ok (.if_icmp .ne (14), 3) := by decide +kernel
theorem d_M_begin_31 : decode b_M_begin 31 = .ok (.iload_n 2, 1) := by decide +kernel
theorem d_M_begin_32 : decode b_M_begin 32 = .ok (.iconst 1, 1) := by decide +kernel
theorem d_M_begin_33 : decode b_M_begin 33 = .ok (.if_icmp .lt (29), 3) := by decide +kernel
theorem d_M_begin_36 : decode b_M_begin 36 = .ok (.iload_n 2, 1) := by decide +kernel
theorem d_M_begin_37 : decode b_M_begin 37 = .ok (.bipush (6), 2) := by decide +kernel
theorem d_M_begin_39 : decode b_M_begin 39 = .ok (.if_icmp .gt (23), 3) := by decide +kernel
theorem d_M_begin_42 : decode b_M_begin 42 = .ok (.iload_n 1, 1) := by decide +kernel
theorem d_M_begin_43 : decode b_M_begin 43 = .ok (.bipush (6), 2) := by decide +kernel
theorem d_M_begin_45 : decode b_M_begin 45 = .ok (.if_icmp .ne (13), 3) := by decide +kernel
theorem d_M_begin_48 : decode b_M_begin 48 = .ok (.iload_n 2, 1) := by decide +kernel
theorem d_M_begin_49 : decode b_M_begin 49 = .ok (.ifCond .lt (13), 3) := by decide +kernel
theorem d_M_begin_52 : decode b_M_begin 52 = .ok (.iload_n 2, 1) := by decide +kernel
theorem d_M_begin_53 : decode b_M_begin 53 = .ok (.ldc 136, 2) := by decide +kernel
theorem d_M_begin_55 : decode b_M_begin 55 = .ok (.if_icmp .gt (7), 3) := by decide +kernel
theorem d_M_begin_58 : decode b_M_begin 58 = .ok (.iconst 1, 1) := by decide +kernel
theorem d_M_begin_59 : decode b_M_begin 59 = .ok (.goto (4), 3) := by decide +kernel
theorem d_M_begin_62 : decode b_M_begin 62 = .ok (.iconst 0, 1) := by decide +kernel
theorem d_M_begin_63 : decode b_M_begin 63 = .ok (.istore_n 3, 1) := by decide +kernel
theorem d_M_begin_64 : decode b_M_begin 64 = .ok (.aload_n 0, 1) := by decide +kernel
theorem d_M_begin_65 : decode b_M_begin 65 = .ok (.aload_n 0, 1) := by decide +kernel
theorem d_M_begin_66 : decode b_M_begin 66 = .ok (.invokevirtual 137, 3) := by decide +kernel
theorem d_M_begin_69 : decode b_M_begin 69 = .ok (.ifCond .eq (7), 3) := by decide +kernel
theorem d_M_begin_72 : decode b_M_begin 72 = .ok (.iconst 1, 1) := by decide +kernel
theorem d_M_begin_73 : decode b_M_begin 73 = .ok (.goto (12), 3) := by decide +kernel
theorem d_M_begin_76 : decode b_M_begin 76 = .ok (.iload_n 3, 1) := by decide +kernel
theorem d_M_begin_77 : decode b_M_begin 77 = .ok (.ifCond .eq (7), 3) := by decide +kernel
theorem d_M_begin_80 : decode b_M_begin 80 = .ok (.iconst 0, 1) := by decide +kernel
theorem d_M_begin_81 : decode b_M_begin 81 = .ok (.goto (4), 3) := by decide +kernel
theorem d_M_begin_84 : decode b_M_begin 84 = .ok (.iconst 2, 1) := by decide +kernel
theorem d_M_begin_85 : decode b_M_begin 85 = .ok (.putfield 97, 3) := by decide +kernel
theorem d_M_begin_88 : decode b_M_begin 88 = .ok (.aload_n 0, 1) := by decide +kernel
theorem d_M_begin_89 : decode b_M_begin 89 = .ok (.getfield 97, 3) := by decide +kernel
theorem d_M_begin_92 : decode b_M_begin 92 = .ok (.ifCond .le (5), 3) := by decide +kernel
theorem d_M_begin_95 : decode b_M_begin 95 = .ok (.iconst 0, 1) := by decide +kernel
theorem d_M_begin_96 : decode b_M_begin 96 = .ok (.ireturn, 1) := by decide +kernel
theorem d_M_begin_97 : decode b_M_begin 97 = .ok (.aload_n 0, 1) := by decide +kernel
theorem d_M_begin_98 : decode b_M_begin 98 = .ok (.iload_n 1, 1) := by decide +kernel
theorem d_M_begin_99 : decode b_M_begin 99 = .ok (.iload_n 1, 1) := by decide +kernel
theorem d_M_begin_100 : decode b_M_begin 100 = .ok (.iconst 1, 1) := by decide +kernel
theorem d_M_begin_101 : decode b_M_begin 101 = .ok (.if_icmp .eq (9), 3) := by decide +kernel
theorem d_M_begin_104 : decode b_M_begin 104 = .ok (.iload_n 1, 1) := by decide +kernel
theorem d_M_begin_105 : decode b_M_begin 105 = .ok (.bipush (6), 2) := by decide +kernel
theorem d_M_begin_107 : decode b_M_begin 107 = .ok (.if_icmp .ne (7), 3) := by decide +kernel
theorem d_M_begin_110 : decode b_M_begin 110 = .ok (.iload_n 2, 1) := by decide +kernel
theorem d_M_begin_111 : decode b_M_begin 111 = .ok (.goto (4), 3) := by decide +kernel
theorem d_M_begin_114 : decode b_M_begin 114 = .ok (.iconst 0, 1) := by decide +kernel
theorem d_M_begin_115 : decode b_M_begin 115 = .ok (.invokevirtual 141, 3) := by decide +kernel
theorem d_M_begin_118 : decode b_M_begin 118 = .ok (.istore 4, 2) := by decide +kernel
theorem d_M_begin_120 : decode b_M_begin 120 = .ok (.iload_n 1, 1) := by decide +kernel
theorem d_M_begin_121 : decode b_M_begin 121 = .ok (.iconst 2, 1) := by decide +kernel
theorem d_M_begin_122 : decode b_M_begin 122 = .ok (.if_icmp .eq (15), 3) := by decide +kernel
theorem d_M_begin_125 : decode b_M_begin 125 = .ok (.iload_n 1, 1) := by decide +kernel
theorem d_M_begin_126 : decode b_M_begin 126 = .ok (.bipush (9), 2) := by decide +kernel
theorem d_M_begin_128 : decode b_M_begin 128 = .ok (.if_icmp .eq (9), 3) := by decide +kernel
theorem d_M_begin_131 : decode b_M_begin 131 = .ok (.aload_n 0, 1) := by decide +kernel
theorem d_M_begin_132 : decode b_M_begin 132 = .ok (.iload 4, 2) := by decide +kernel
theorem d_M_begin_134 : decode b_M_begin 134 = .ok (.putfield 107, 3) := by decide +kernel
theorem d_M_begin_137 : decode b_M_begin 137 = .ok (.iload 4, 2) := by decide +kernel
theorem d_M_begin_139 : decode b_M_begin 139 = .ok (.ireturn, 1) := by decide +kernel
theorem d_M_say_0 : decode b_M_say 0 = .ok (.aload_n 0, 1) := by decide +kernel
theorem d_M_say_1 : decode b_M_say 1 = .ok (.getfield 28, 3) := by decide +kernel
theorem d_M_say_4 : decode b_M_say 4 = .ok (.aload_n 0, 1) := by decide +kernel
theorem d_M_say_5 : decode b_M_say 5 = .ok (.getfield 107, 3) := by decide +kernel
theorem d_M_say_8 : decode b_M_say 8 = .ok (.iaload, 1) := by decide +kernel
theorem d_M_say_9 : decode b_M_say 9 = .ok (.iconst (-1), 1) := by decide +kernel
theorem d_M_say_10 : decode b_M_say 10 = .ok (.if_icmp .eq (22), 3) := by decide +kernel
theorem d_M_say_13 : decode b_M_say 13 = .ok (.aload_n 0, 1) := by decide +kernel
theorem d_M_say_14 : decode b_M_say 14 = .ok (.getfield 7, 3) := by decide +kernel
theorem d_M_say_17 : decode b_M_say 17 = .ok (.aload_n 0, 1) := by decide +kernel
theorem d_M_say_18 : decode b_M_say 18 = .ok (.getfield 28, 3) := by decide +kernel
theorem d_M_say_21 : decode b_M_say 21 = .ok (.aload_n 0, 1) := by decide +kernel
theorem d_M_say_22 : decode b_M_say 22 = .ok (.getfield 107, 3) := by decide +kernel
theorem d_M_say_25 : decode b_M_say 25 = .ok (.iaload, 1) := by decide +kernel
theorem d_M_say_26 : decode b_M_say 26 = .ok (.iaload, 1) := by decide +kernel
theorem d_M_say_27 : decode b_M_say 27 = .ok (.bipush (10), 2) := by decide +kernel
theorem d_M_say_29 : decode b_M_say 29 = .ok (.if_icmp .eq (7), 3) := by decide +kernel
theorem d_M_say_32 : decode b_M_say 32 = .ok (.iconst 1, 1) := by decide +kernel
theorem d_M_say_33 : decode b_M_say 33 = .ok (.goto (4), 3) := by decide +kernel
