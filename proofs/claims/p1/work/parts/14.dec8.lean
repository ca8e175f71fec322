theorem d_P_pages_1 : decode b_P_pages 1 = .ok (.iconst 5, 1) := by decide +kernel
theorem d_P_pages_2 : decode b_P_pages 2 = .ok (.if_icmp .lt (21), 3) := by decide +kernel
theorem d_P_pages_5 : decode b_P_pages 5 = .ok (.iload_n 1, 1) := by decide +kernel
theorem d_P_pages_6 : decode b_P_pages 6 = .ok (.bipush (40), 2) := by decide +kernel
theorem d_P_pages_8 : decode b_P_pages 8 = .ok (.if_icmp .gt (15), 3) := by decide +kernel
theorem d_P_pages_11 : decode b_P_pages 11 = .ok (.iload_n 2, 1) := by decide +kernel
theorem d_P_pages_12 : decode b_P_pages 12 = .ok (.bipush (8), 2) := by decide +kernel
theorem d_P_pages_14 : decode b_P_pages 14 = .ok (.if_icmp .lt (9), 3) := by decide +kernel
theorem d_P_pages_17 : decode b_P_pages 17 = .ok (.iload_n 2, 1) := by decide +kernel
theorem d_P_pages_18 : decode b_P_pages 18 = .ok (.bipush (60), 2) := by decide +kernel
theorem d_P_pages_20 : decode b_P_pages 20 = .ok (.if_icmp .le (13), 3) := by decide +kernel
theorem d_P_pages_23 : decode b_P_pages 23 = .ok (.new 58, 3) := by decide +kernel
theorem d_P_pages_26 : decode b_P_pages 26 = .ok (.dup, 1) := by decide +kernel
theorem d_P_pages_27 : decode b_P_pages 27 = .ok (.ldc 126, 2) := by decide +kernel
theorem d_P_pages_29 : decode b_P_pages 29 = .ok (.invokespecial 62, 3) := by decide +kernel
theorem d_P_pages_32 : decode b_P_pages 32 = .ok (.athrow, 1) := by decide +kernel
theorem d_P_pages_33 : decode b_P_pages 33 = .ok (.aload_n 0, 1) := by decide +kernel
theorem d_P_pages_34 : decode b_P_pages 34 = .ok (.getfield 18, 3) := by decide +kernel
theorem d_P_pages_37 : decode b_P_pages 37 = .ok (.getfield 128, 3) := by decide +kernel
theorem d_P_pages_40 : decode b_P_pages 40 = .ok (.astore_n 3, 1) := by decide +kernel
theorem d_P_pages_41 : decode b_P_pages 41 = .ok (.aload_n 3, 1) := by decide +kernel
theorem d_P_pages_42 : decode b_P_pages 42 = .ok (.iload_n 1, 1) := by decide +kernel
theorem d_P_pages_43 : decode b_P_pages 43 = .ok (.iload_n 2, 1) := by decide +kernel
theorem d_P_pages_44 : decode b_P_pages 44 = .ok (.invokevirtual 131, 3) := by decide +kernel
theorem d_P_pages_47 : decode b_P_pages 47 = .ok (.aload_n 0, 1) := by decide +kernel
theorem d_P_pages_48 : decode b_P_pages 48 = .ok (.getfield 18, 3) := by decide +kernel
theorem d_P_pages_51 : decode b_P_pages 51 = .ok (.aload_n 0, 1) := by decide +kernel
theorem d_P_pages_52 : decode b_P_pages 52 = .ok (.getfield 32, 3) := by decide +kernel
theorem d_P_pages_55 : decode b_P_pages 55 = .ok (.iload_n 2, 1) := by decide +kernel
theorem d_P_pages_56 : decode b_P_pages 56 = .ok (.invokevirtual 135, 3) := by decide +kernel
theorem d_P_pages_59 : decode b_P_pages 59 = .ok (.aload_n 3, 1) := by decide +kernel
theorem d_P_pages_60 : decode b_P_pages 60 = .ok (.getfield 139, 3) := by decide +kernel
theorem d_P_pages_63 : decode b_P_pages 63 = .ok (.ifCond .eq (13), 3) := by decide +kernel
theorem d_P_pages_66 : decode b_P_pages 66 = .ok (.new 47, 3) := by decide +kernel
theorem d_P_pages_69 : decode b_P_pages 69 = .ok (.dup, 1) := by decide +kernel
theorem d_P_pages_70 : decode b_P_pages 70 = .ok (.ldc 142, 2) := by decide +kernel
theorem d_P_pages_72 : decode b_P_pages 72 = .ok (.invokespecial 51, 3) := by decide +kernel
theorem d_P_pages_75 : decode b_P_pages 75 = .ok (.athrow, 1) := by decide +kernel
theorem d_P_pages_76 : decode b_P_pages 76 = .ok (.aload_n 3, 1) := by decide +kernel
theorem d_P_pages_77 : decode b_P_pages 77 = .ok (.invokevirtual 144, 3) := by decide +kernel
theorem d_P_pages_80 : decode b_P_pages 80 = .ok (.aload_n 0, 1) := by decide +kernel
theorem d_P_pages_81 : decode b_P_pages 81 = .ok (.getfield 18, 3) := by decide +kernel
theorem d_P_pages_84 : decode b_P_pages 84 = .ok (.aload_n 0, 1) := by decide +kernel
theorem d_P_pages_85 : decode b_P_pages 85 = .ok (.getfield 25, 3) := by decide +kernel
theorem d_P_pages_88 : decode b_P_pages 88 = .ok (.putfield 128, 3) := by decide +kernel
theorem d_P_pages_91 : decode b_P_pages 91 = .ok (.aload_n 0, 1) := by decide +kernel
theorem d_P_pages_92 : decode b_P_pages 92 = .ok (.aload_n 3, 1) := by decide +kernel
theorem d_P_pages_93 : decode b_P_pages 93 = .ok (.putfield 25, 3) := by decide +kernel
theorem d_P_pages_96 : decode b_P_pages 96 = .ok (.aload_n 0, 1) := by decide +kernel
theorem d_P_pages_97 : decode b_P_pages 97 = .ok (.iconst 1, 1) := by decide +kernel
theorem d_P_pages_98 : decode b_P_pages 98 = .ok (.putfield 122, 3) := by decide +kernel
theorem d_P_pages_101 : decode b_P_pages 101 = .ok (.aload_n 0, 1) := by decide +kernel
theorem d_P_pages_102 : decode b_P_pages 102 = .ok (.invokevirtual 147, 3) := by decide +kernel
theorem d_P_pages_105 : decode b_P_pages 105 = .ok (.aload_n 0, 1) := by decide +kernel
theorem d_P_pages_106 : decode b_P_pages 106 = .ok (.getfield 25, 3) := by decide +kernel
theorem d_P_pages_109 : decode b_P_pages 109 = .ok (.invokevirtual 150, 3) := by decide +kernel
theorem d_P_pages_112 : decode b_P_pages 112 = .ok (.ireturn, 1) := by decide +kernel
theorem d_M_isBlock_0 : decode b_M_isBlock 0 = .ok (.iload_n 0, 1) := by decide +kernel
theorem d_M_isBlock_1 : decode b_M_isBlock 1 = .ok (.ifCond .lt (13), 3) := by decide +kernel
theorem d_M_isBlock_4 : decode b_M_isBlock 4 = .ok (.iload_n 0, 1) := by decide +kernel
theorem d_M_isBlock_5 : decode b_M_isBlock 5 = .ok (.bipush (6), 2) := by decide +kernel
theorem d_M_isBlock_7 : decode b_M_isBlock 7 = .ok (.if_icmp .gt (7), 3) := by decide +kernel
theorem d_M_isBlock_10 : decode b_M_isBlock 10 = .ok (.iconst 1, 1) := by decide +kernel
theorem d_M_isBlock_11 : decode b_M_isBlock 11 = .ok (.goto (4), 3) := by decide +kernel
theorem d_M_isBlock_14 : decode b_M_isBlock 14 = .ok (.iconst 0, 1) := by decide +kernel
theorem d_M_isBlock_15 : decode b_M_isBlock 15 = .ok (.ireturn, 1) := by decide +kernel
theorem d_M_isInline_0 : decode b_M_isInline 0 = .ok (.iload_n 0, 1) := by decide +kernel
theorem d_M_isInline_1 : decode b_M_isInline 1 = .ok (.bipush (8), 2) := by decide +kernel
theorem d_M_isInline_3 : decode b_M_isInline 3 = .ok (.if_icmp .lt (13), 3) := by decide +kernel
theorem d_M_isInline_6 : decode b_M_isInline 6 = .ok (.iload_n 0, 1) := by decide +kernel
theorem d_M_isInline_7 : decode b_M_isInline 7 = .ok (.bipush (10), 2) := by decide +kernel
theorem d_M_isInline_9 : decode b_M_isInline 9 = .ok (.if_icmp .gt (7), 3) := by decide +kernel
theorem d_M_isInline_12 : decode b_M_isInline 12 = .ok (.iconst 1, 1) := by decide +kernel
theorem d_M_isInline_13 : decode b_M_isInline 13 = .ok (.goto (4), 3) := by decide +kernel
theorem d_M_isInline_16 : decode b_M_isInline 16 = .ok (.iconst 0, 1) := by decide +kernel
theorem d_M_isInline_17 : decode b_M_isInline 17 = .ok (.ireturn, 1) := by decide +kernel
theorem d_M_mayHold_0 : decode b_M_mayHold 0 = .ok (.iload_n 0, 1) := by decide +kernel
theorem d_M_mayHold_1 : decode b_M_mayHold 1 = .ok (.tableswitch (117) (0) (11) #[100, 100, 117, 105, 63, 68, 68, 80, 100, 117, 117, 63], 63) := by decide +kernel
theorem d_M_mayHold_64 : decode b_M_mayHold 64 = .ok (.iload_n 1, 1) := by decide +kernel
theorem d_M_mayHold_65 : decode b_M_mayHold 65 = .ok (.invokestatic 125, 3) := by decide +kernel
theorem d_M_mayHold_68 : decode b_M_mayHold 68 = .ok (.ireturn, 1) := by decide +kernel
theorem d_M_mayHold_69 : decode b_M_mayHold 69 = .ok (.iload_n 1, 1) := by decide +kernel
theorem d_M_mayHold_70 : decode b_M_mayHold 70 = .ok (.bipush (7), 2) := by decide +kernel
theorem d_M_mayHold_72 : decode b_M_mayHold 72 = .ok (.if_icmp .ne (7), 3) := by decide +kernel
theorem d_M_mayHold_75 : decode b_M_mayHold 75 = .ok (.iconst 1, 1) := by decide +kernel
theorem d_M_mayHold_76 : decode b_M_mayHold 76 = .ok (.goto (4), 3) := by decide +kernel
theorem d_M_mayHold_79 : decode b_M_mayHold 79 = .ok (.iconst 0, 1) := by decide +kernel
theorem d_M_mayHold_80 : decode b_M_mayHold 80 = .ok (.ireturn, 1) := by decide +kernel
theorem d_M_mayHold_81 : decode b_M_mayHold 81 = .ok (.iload_n 1, 1) := by decide +kernel
theorem d_M_mayHold_82 : decode b_M_mayHold 82 = .ok (.invokestatic 125, 3) := by decide +kernel
theorem d_M_mayHold_85 : decode b_M_mayHold 85 = .ok (.ifCond .ne (10), 3) := by decide +kernel
theorem d_M_mayHold_88 : decode b_M_mayHold 88 = .ok (.iload_n 1, 1) := by decide +kernel
theorem d_M_mayHold_89 : decode b_M_mayHold 89 = .ok (.invokestatic 129, 3) := by decide +kernel
theorem d_M_mayHold_92 : decode b_M_mayHold 92 = .ok (.ifCond .eq (7), 3) := by decide +kernel
theorem d_M_mayHold_95 : decode b_M_mayHold 95 = .ok (.iconst 1, 1) := by decide +kernel
theorem d_M_mayHold_96 : decode b_M_mayHold 96 = .ok (.goto (4), 3) := by decide +kernel
theorem d_M_mayHold_99 : decode b_M_mayHold 99 = .ok (.iconst 0, 1) := by decide +kernel
theorem d_M_mayHold_100 : decode b_M_mayHold 100 = .ok (.ireturn, 1) := by decide +kernel
theorem d_M_mayHold_101 : decode b_M_mayHold 101 = .ok (.iload_n 1, 1) := by decide +kernel
theorem d_M_mayHold_102 : decode b_M_mayHold 102 = .ok (.invokestatic 129, 3) := by decide +kernel
theorem d_M_mayHold_105 : decode b_M_mayHold 105 = .ok (.ireturn, 1) := by decide +kernel
theorem d_M_mayHold_106 : decode b_M_mayHold 106 = .ok (.iload_n 1, 1) := by decide +kernel
theorem d_M_mayHold_107 : decode b_M_mayHold 107 = .ok (.bipush (10), 2) := by decide +kernel
theorem d_M_mayHold_109 : decode b_M_mayHold 109 = .ok (.if_icmp .ne (7), 3) := by decide +kernel
theorem d_M_mayHold_112 : decode b_M_mayHold 112 = .ok (.iconst 1, 1) := by decide +kernel
theorem d_M_mayHold_113 : decode b_M_mayHold 113 = .ok (.goto (4), 3) := by decide +kernel
theorem d_M_mayHold_116 : decode b_M_mayHold 116 = .ok (.iconst 0, 1) := by decide +kernel
theorem d_M_mayHold_117 : decode b_M_mayHold 117 = .ok (.ireturn, 1) := by decide +kernel
theorem d_M_mayHold_118 : decode b_M_mayHold 118 = .ok (.iconst 0, 1) := by decide +kernel
theorem d_M_mayHold_119 : decode b_M_mayHold 119 = .ok (.ireturn, 1) := by decide +kernel
theorem d_M_thrown_0 : decode b_M_thrown 0 = .ok (.aload_n 0, 1) := by decide +kernel
theorem d_M_thrown_1 : decode b_M_thrown 1 = .ok (.getfield 97, 3) := by decide +kernel
theorem d_M_thrown_4 : decode b_M_thrown 4 = .ok (.ireturn, 1) := by decide +kernel
theorem d_M_isFull_0 : decode b_M_isFull 0 = .ok (.aload_n 0, 1) := by decide +kernel
theorem d_M_isFull_1 : decode b_M_isFull 1 = .ok (.getfield 101, 3) := by decide +kernel
theorem d_M_isFull_4 : decode b_M_isFull 4 = .ok (.sipush (300), 3) := by decide +kernel
theorem d_M_isFull_7 : decode b_M_isFull 7 = .ok (.if_icmp .eq (17), 3) := by decide +kernel
theorem d_M_isFull_10 : decode b_M_isFull 10 = .ok (.aload_n 0, 1) := by decide +kernel
theorem d_M_isFull_11 : decode b_M_isFull 11 = .ok (.getfield 19, 3) := by decide +kernel
theorem d_M_isFull_14 : decode b_M_isFull 14 = .ok (.aload_n 0, 1) := by decide +kernel
theorem d_M_isFull_15 : decode b_M_isFull 15 = .ok (.getfield 107, 3) := by decide +kernel
theorem d_M_isFull_18 : decode b_M_isFull 18 = .ok (.iaload, 1) := by decide +kernel
theorem d_M_isFull_19 : decode b_M_isFull 19 = .ok (.bipush (12), 2) := by decide +kernel
theorem d_M_isFull_21 : decode b_M_isFull 21 = .ok (.if_icmp .ne (7), 3) := by decide +kernel
theorem d_M_isFull_24 : decode b_M_isFull 24 = .ok (.iconst 1, 1) := by decide +kernel
theorem d_M_isFull_25 : decode b_M_isFull 25 = .ok (.goto (4), 3) := by decide +kernel
theorem d_M_isFull_28 : decode b_M_isFull 28 = .ok (.iconst 0, 1) := by decide +kernel
theorem d_M_isFull_29 : decode b_M_isFull 29 = .ok (.ireturn, 1) := by decide +kernel
theorem d_M_add_0 : decode b_M_add 0 = .ok (.aload_n 0, 1) := by decide +kernel
theorem d_M_add_1 : decode b_M_add 1 = .ok (.getfield 101, 3) := by decide +kernel
theorem d_M_add_4 : decode b_M_add 4 = .ok (.istore_n 3, 1) := by decide +kernel
theorem d_M_add_5 : decode b_M_add 5 = .ok (.aload_n 0, 1) := by decide +kernel
theorem d_M_add_6 : decode b_M_add 6 = .ok (.getfield 7, 3) := by decide +kernel
theorem d_M_add_9 : decode b_M_add 9 = .ok (.iload_n 3, 1) := by decide +kernel
theorem d_M_add_10 : decode b_M_add 10 = .ok (.iload_n 1, 1) := by decide +kernel
theorem d_M_add_11 : decode b_M_add 11 = .ok (.iastore, 1) := by decide +kernel
theorem d_M_add_12 : decode b_M_add 12 = .ok (.aload_n 0, 1) := by decide +kernel
theorem d_M_add_13 : decode b_M_add 13 = .ok (.getfield 13, 3) := by decide +kernel
theorem d_M_add_16 : decode b_M_add 16 = .ok (.iload_n 3, 1) := by decide +kernel
theorem d_M_add_17 : decode b_M_add 17 = .ok (.aload_n 0, 1) := by decide +kernel
theorem d_M_add_18 : decode b_M_add 18 = .ok (.getfield 107, 3) := by decide +kernel
theorem d_M_add_21 : decode b_M_add 21 = .ok (.iastore, 1) := by decide +kernel
theorem d_M_add_22 : decode b_M_add 22 = .ok (.aload_n 0, 1) := by decide +kernel
theorem d_M_add_23 : decode b_M_add 23 = .ok (.getfield 16, 3) := by decide +kernel
theorem d_M_add_26 : decode b_M_add 26 = .ok (.iload_n 3, 1) := by decide +kernel
theorem d_M_add_27 : decode b_M_add 27 = .ok (.iload_n 2, 1) := by decide +kernel
theorem d_M_add_28 : decode b_M_add 28 = .ok (.iastore, 1) := by decide +kernel
theorem d_M_add_29 : decode b_M_add 29 = .ok (.aload_n 0, 1) := by decide +kernel
theorem d_M_add_30 : decode b_M_add 30 = .ok (.getfield 19, 3) := by decide +kernel
theorem d_M_add_33 : decode b_M_add 33 = .ok (.iload_n 3, 1) := by decide +kernel
