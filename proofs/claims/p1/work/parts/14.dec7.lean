theorem d_S_layParts_84 : decode b_S_layParts 84 = .ok (.aload 6, 2) := by decide +kernel
theorem d_S_layParts_86 : decode b_S_layParts 86 = .ok (.iload_n 2, 1) := by decide +kernel
theorem d_S_layParts_87 : decode b_S_layParts 87 = .ok (.invokevirtual 66, 3) := by decide +kernel
theorem d_S_layParts_90 : decode b_S_layParts 90 = .ok (.aload 6, 2) := by decide +kernel
theorem d_S_layParts_92 : decode b_S_layParts 92 = .ok (.getfield 70, 3) := by decide +kernel
theorem d_S_layParts_95 : decode b_S_layParts 95 = .ok (.astore 5, 2) := by decide +kernel
theorem d_S_layParts_97 : decode b_S_layParts 97 = .ok (.goto (-59), 3) := by decide +kernel
theorem d_S_layParts_100 : decode b_S_layParts 100 = .ok (.return_, 1) := by decide +kernel
theorem d_T_fillPages_0 : decode b_T_fillPages 0 = .ok (.iconst 0, 1) := by decide +kernel
theorem d_T_fillPages_1 : decode b_T_fillPages 1 = .ok (.istore_n 1, 1) := by decide +kernel
theorem d_T_fillPages_2 : decode b_T_fillPages 2 = .ok (.iconst 0, 1) := by decide +kernel
theorem d_T_fillPages_3 : decode b_T_fillPages 3 = .ok (.istore_n 2, 1) := by decide +kernel
theorem d_T_fillPages_4 : decode b_T_fillPages 4 = .ok (.iload_n 2, 1) := by decide +kernel
theorem d_T_fillPages_5 : decode b_T_fillPages 5 = .ok (.aload_n 0, 1) := by decide +kernel
theorem d_T_fillPages_6 : decode b_T_fillPages 6 = .ok (.invokevirtual 69, 3) := by decide +kernel
theorem d_T_fillPages_9 : decode b_T_fillPages 9 = .ok (.if_icmp .ge (101), 3) := by decide +kernel
theorem d_T_fillPages_12 : decode b_T_fillPages 12 = .ok (.iload_n 1, 1) := by decide +kernel
theorem d_T_fillPages_13 : decode b_T_fillPages 13 = .ok (.aload_n 0, 1) := by decide +kernel
theorem d_T_fillPages_14 : decode b_T_fillPages 14 = .ok (.getfield 47, 3) := by decide +kernel
theorem d_T_fillPages_17 : decode b_T_fillPages 17 = .ok (.if_icmp .ge (16), 3) := by decide +kernel
theorem d_T_fillPages_20 : decode b_T_fillPages 20 = .ok (.iload_n 1, 1) := by decide +kernel
theorem d_T_fillPages_21 : decode b_T_fillPages 21 = .ok (.ifCond .le (14), 3) := by decide +kernel
theorem d_T_fillPages_24 : decode b_T_fillPages 24 = .ok (.aload_n 0, 1) := by decide +kernel
theorem d_T_fillPages_25 : decode b_T_fillPages 25 = .ok (.iload_n 2, 1) := by decide +kernel
theorem d_T_fillPages_26 : decode b_T_fillPages 26 = .ok (.iload_n 1, 1) := by decide +kernel
theorem d_T_fillPages_27 : decode b_T_fillPages 27 = .ok (.invokevirtual 72, 3) := by decide +kernel
theorem d_T_fillPages_30 : decode b_T_fillPages 30 = .ok (.ifCond .eq (5), 3) := by decide +kernel
theorem d_T_fillPages_33 : decode b_T_fillPages 33 = .ok (.iconst 0, 1) := by decide +kernel
theorem d_T_fillPages_34 : decode b_T_fillPages 34 = .ok (.istore_n 1, 1) := by decide +kernel
theorem d_T_fillPages_35 : decode b_T_fillPages 35 = .ok (.iload_n 1, 1) := by decide +kernel
theorem d_T_fillPages_36 : decode b_T_fillPages 36 = .ok (.ifCond .ne (17), 3) := by decide +kernel
theorem d_T_fillPages_39 : decode b_T_fillPages 39 = .ok (.aload_n 0, 1) := by decide +kernel
theorem d_T_fillPages_40 : decode b_T_fillPages 40 = .ok (.getfield 21, 3) := by decide +kernel
theorem d_T_fillPages_43 : decode b_T_fillPages 43 = .ok (.iload_n 2, 1) := by decide +kernel
theorem d_T_fillPages_44 : decode b_T_fillPages 44 = .ok (.invokevirtual 62, 3) := by decide +kernel
theorem d_T_fillPages_47 : decode b_T_fillPages 47 = .ok (.ifCond .ne (6), 3) := by decide +kernel
theorem d_T_fillPages_50 : decode b_T_fillPages 50 = .ok (.goto (54), 3) := by decide +kernel
theorem d_T_fillPages_53 : decode b_T_fillPages 53 = .ok (.iload_n 1, 1) := by decide +kernel
theorem d_T_fillPages_54 : decode b_T_fillPages 54 = .ok (.ifCond .ne (19), 3) := by decide +kernel
theorem d_T_fillPages_57 : decode b_T_fillPages 57 = .ok (.aload_n 0, 1) := by decide +kernel
theorem d_T_fillPages_58 : decode b_T_fillPages 58 = .ok (.getfield 33, 3) := by decide +kernel
theorem d_T_fillPages_61 : decode b_T_fillPages 61 = .ok (.iload_n 2, 1) := by decide +kernel
theorem d_T_fillPages_62 : decode b_T_fillPages 62 = .ok (.invokevirtual 66, 3) := by decide +kernel
theorem d_T_fillPages_65 : decode b_T_fillPages 65 = .ok (.aload_n 0, 1) := by decide +kernel
theorem d_T_fillPages_66 : decode b_T_fillPages 66 = .ok (.getfield 36, 3) := by decide +kernel
theorem d_T_fillPages_69 : decode b_T_fillPages 69 = .ok (.iconst 0, 1) := by decide +kernel
theorem d_T_fillPages_70 : decode b_T_fillPages 70 = .ok (.invokevirtual 66, 3) := by decide +kernel
theorem d_T_fillPages_73 : decode b_T_fillPages 73 = .ok (.iinc 1 (1), 3) := by decide +kernel
theorem d_T_fillPages_76 : decode b_T_fillPages 76 = .ok (.aload_n 0, 1) := by decide +kernel
theorem d_T_fillPages_77 : decode b_T_fillPages 77 = .ok (.getfield 24, 3) := by decide +kernel
theorem d_T_fillPages_80 : decode b_T_fillPages 80 = .ok (.iload_n 2, 1) := by decide +kernel
theorem d_T_fillPages_81 : decode b_T_fillPages 81 = .ok (.aload_n 0, 1) := by decide +kernel
theorem d_T_fillPages_82 : decode b_T_fillPages 82 = .ok (.invokevirtual 76, 3) := by decide +kernel
theorem d_T_fillPages_85 : decode b_T_fillPages 85 = .ok (.iconst 1, 1) := by decide +kernel
theorem d_T_fillPages_86 : decode b_T_fillPages 86 = .ok (.isub, 1) := by decide +kernel
theorem d_T_fillPages_87 : decode b_T_fillPages 87 = .ok (.invokevirtual 79, 3) := by decide +kernel
theorem d_T_fillPages_90 : decode b_T_fillPages 90 = .ok (.aload_n 0, 1) := by decide +kernel
theorem d_T_fillPages_91 : decode b_T_fillPages 91 = .ok (.getfield 36, 3) := by decide +kernel
theorem d_T_fillPages_94 : decode b_T_fillPages 94 = .ok (.aload_n 0, 1) := by decide +kernel
theorem d_T_fillPages_95 : decode b_T_fillPages 95 = .ok (.invokevirtual 76, 3) := by decide +kernel
theorem d_T_fillPages_98 : decode b_T_fillPages 98 = .ok (.iconst 1, 1) := by decide +kernel
theorem d_T_fillPages_99 : decode b_T_fillPages 99 = .ok (.isub, 1) := by decide +kernel
theorem d_T_fillPages_100 : decode b_T_fillPages 100 = .ok (.iload_n 1, 1) := by decide +kernel
theorem d_T_fillPages_101 : decode b_T_fillPages 101 = .ok (.invokevirtual 79, 3) := by decide +kernel
theorem d_T_fillPages_104 : decode b_T_fillPages 104 = .ok (.iinc 2 (1), 3) := by decide +kernel
theorem d_T_fillPages_107 : decode b_T_fillPages 107 = .ok (.goto (-103), 3) := by decide +kernel
theorem d_T_fillPages_110 : decode b_T_fillPages 110 = .ok (.aload_n 0, 1) := by decide +kernel
theorem d_T_fillPages_111 : decode b_T_fillPages 111 = .ok (.invokevirtual 76, 3) := by decide +kernel
theorem d_T_fillPages_114 : decode b_T_fillPages 114 = .ok (.ifCond .ne (22), 3) := by decide +kernel
theorem d_T_fillPages_117 : decode b_T_fillPages 117 = .ok (.aload_n 0, 1) := by decide +kernel
theorem d_T_fillPages_118 : decode b_T_fillPages 118 = .ok (.getfield 33, 3) := by decide +kernel
theorem d_T_fillPages_121 : decode b_T_fillPages 121 = .ok (.aload_n 0, 1) := by decide +kernel
theorem d_T_fillPages_122 : decode b_T_fillPages 122 = .ok (.invokevirtual 69, 3) := by decide +kernel
theorem d_T_fillPages_125 : decode b_T_fillPages 125 = .ok (.invokevirtual 66, 3) := by decide +kernel
theorem d_T_fillPages_128 : decode b_T_fillPages 128 = .ok (.aload_n 0, 1) := by decide +kernel
theorem d_T_fillPages_129 : decode b_T_fillPages 129 = .ok (.getfield 36, 3) := by decide +kernel
theorem d_T_fillPages_132 : decode b_T_fillPages 132 = .ok (.iconst 0, 1) := by decide +kernel
theorem d_T_fillPages_133 : decode b_T_fillPages 133 = .ok (.invokevirtual 66, 3) := by decide +kernel
theorem d_T_fillPages_136 : decode b_T_fillPages 136 = .ok (.return_, 1) := by decide +kernel
theorem d_T_pageFrom_0 : decode b_T_pageFrom 0 = .ok (.iload_n 1, 1) := by decide +kernel
theorem d_T_pageFrom_1 : decode b_T_pageFrom 1 = .ok (.istore_n 2, 1) := by decide +kernel
theorem d_T_pageFrom_2 : decode b_T_pageFrom 2 = .ok (.iload_n 2, 1) := by decide +kernel
theorem d_T_pageFrom_3 : decode b_T_pageFrom 3 = .ok (.aload_n 0, 1) := by decide +kernel
theorem d_T_pageFrom_4 : decode b_T_pageFrom 4 = .ok (.invokevirtual 69, 3) := by decide +kernel
theorem d_T_pageFrom_7 : decode b_T_pageFrom 7 = .ok (.if_icmp .ge (41), 3) := by decide +kernel
theorem d_T_pageFrom_10 : decode b_T_pageFrom 10 = .ok (.aload_n 0, 1) := by decide +kernel
theorem d_T_pageFrom_11 : decode b_T_pageFrom 11 = .ok (.getfield 30, 3) := by decide +kernel
theorem d_T_pageFrom_14 : decode b_T_pageFrom 14 = .ok (.iload_n 2, 1) := by decide +kernel
theorem d_T_pageFrom_15 : decode b_T_pageFrom 15 = .ok (.invokevirtual 62, 3) := by decide +kernel
theorem d_T_pageFrom_18 : decode b_T_pageFrom 18 = .ok (.ifCond .ne (24), 3) := by decide +kernel
theorem d_T_pageFrom_21 : decode b_T_pageFrom 21 = .ok (.aload_n 0, 1) := by decide +kernel
theorem d_T_pageFrom_22 : decode b_T_pageFrom 22 = .ok (.getfield 24, 3) := by decide +kernel
theorem d_T_pageFrom_25 : decode b_T_pageFrom 25 = .ok (.iload_n 2, 1) := by decide +kernel
theorem d_T_pageFrom_26 : decode b_T_pageFrom 26 = .ok (.invokevirtual 62, 3) := by decide +kernel
theorem d_T_pageFrom_29 : decode b_T_pageFrom 29 = .ok (.iconst (-1), 1) := by decide +kernel
theorem d_T_pageFrom_30 : decode b_T_pageFrom 30 = .ok (.if_icmp .eq (12), 3) := by decide +kernel
theorem d_T_pageFrom_33 : decode b_T_pageFrom 33 = .ok (.aload_n 0, 1) := by decide +kernel
theorem d_T_pageFrom_34 : decode b_T_pageFrom 34 = .ok (.getfield 24, 3) := by decide +kernel
theorem d_T_pageFrom_37 : decode b_T_pageFrom 37 = .ok (.iload_n 2, 1) := by decide +kernel
theorem d_T_pageFrom_38 : decode b_T_pageFrom 38 = .ok (.invokevirtual 62, 3) := by decide +kernel
theorem d_T_pageFrom_41 : decode b_T_pageFrom 41 = .ok (.ireturn, 1) := by decide +kernel
theorem d_T_pageFrom_42 : decode b_T_pageFrom 42 = .ok (.iinc 2 (1), 3) := by decide +kernel
theorem d_T_pageFrom_45 : decode b_T_pageFrom 45 = .ok (.goto (-43), 3) := by decide +kernel
theorem d_T_pageFrom_48 : decode b_T_pageFrom 48 = .ok (.aload_n 0, 1) := by decide +kernel
theorem d_T_pageFrom_49 : decode b_T_pageFrom 49 = .ok (.invokevirtual 76, 3) := by decide +kernel
theorem d_T_pageFrom_52 : decode b_T_pageFrom 52 = .ok (.iconst 1, 1) := by decide +kernel
theorem d_T_pageFrom_53 : decode b_T_pageFrom 53 = .ok (.isub, 1) := by decide +kernel
theorem d_T_pageFrom_54 : decode b_T_pageFrom 54 = .ok (.ireturn, 1) := by decide +kernel
theorem d_P_pageOfNode_0 : decode b_P_pageOfNode 0 = .ok (.aload_n 1, 1) := by decide +kernel
theorem d_P_pageOfNode_1 : decode b_P_pageOfNode 1 = .ok (.getfield 96, 3) := by decide +kernel
theorem d_P_pageOfNode_4 : decode b_P_pageOfNode 4 = .ok (.astore_n 2, 1) := by decide +kernel
theorem d_P_pageOfNode_5 : decode b_P_pageOfNode 5 = .ok (.aload_n 2, 1) := by decide +kernel
theorem d_P_pageOfNode_6 : decode b_P_pageOfNode 6 = .ok (.ifnull (24), 3) := by decide +kernel
theorem d_P_pageOfNode_9 : decode b_P_pageOfNode 9 = .ok (.aload_n 1, 1) := by decide +kernel
theorem d_P_pageOfNode_10 : decode b_P_pageOfNode 10 = .ok (.invokevirtual 203, 3) := by decide +kernel
theorem d_P_pageOfNode_13 : decode b_P_pageOfNode 13 = .ok (.ifCond .eq (17), 3) := by decide +kernel
theorem d_P_pageOfNode_16 : decode b_P_pageOfNode 16 = .ok (.aload_n 2, 1) := by decide +kernel
theorem d_P_pageOfNode_17 : decode b_P_pageOfNode 17 = .ok (.getfield 109, 3) := by decide +kernel
theorem d_P_pageOfNode_20 : decode b_P_pageOfNode 20 = .ok (.bipush (7), 2) := by decide +kernel
theorem d_P_pageOfNode_22 : decode b_P_pageOfNode 22 = .ok (.if_icmp .eq (8), 3) := by decide +kernel
theorem d_P_pageOfNode_25 : decode b_P_pageOfNode 25 = .ok (.aload_n 2, 1) := by decide +kernel
theorem d_P_pageOfNode_26 : decode b_P_pageOfNode 26 = .ok (.getfield 183, 3) := by decide +kernel
theorem d_P_pageOfNode_29 : decode b_P_pageOfNode 29 = .ok (.ireturn, 1) := by decide +kernel
theorem d_P_pageOfNode_30 : decode b_P_pageOfNode 30 = .ok (.aload_n 0, 1) := by decide +kernel
theorem d_P_pageOfNode_31 : decode b_P_pageOfNode 31 = .ok (.getfield 25, 3) := by decide +kernel
theorem d_P_pageOfNode_34 : decode b_P_pageOfNode 34 = .ok (.aload_n 1, 1) := by decide +kernel
theorem d_P_pageOfNode_35 : decode b_P_pageOfNode 35 = .ok (.getfield 206, 3) := by decide +kernel
theorem d_P_pageOfNode_38 : decode b_P_pageOfNode 38 = .ok (.invokevirtual 209, 3) := by decide +kernel
theorem d_P_pageOfNode_41 : decode b_P_pageOfNode 41 = .ok (.ireturn, 1) := by decide +kernel
theorem d_P_placeNodes_0 : decode b_P_placeNodes 0 = .ok (.iconst 0, 1) := by decide +kernel
theorem d_P_placeNodes_1 : decode b_P_placeNodes 1 = .ok (.istore_n 1, 1) := by decide +kernel
theorem d_P_placeNodes_2 : decode b_P_placeNodes 2 = .ok (.iload_n 1, 1) := by decide +kernel
theorem d_P_placeNodes_3 : decode b_P_placeNodes 3 = .ok (.aload_n 0, 1) := by decide +kernel
theorem d_P_placeNodes_4 : decode b_P_placeNodes 4 = .ok (.getfield 39, 3) := by decide +kernel
theorem d_P_placeNodes_7 : decode b_P_placeNodes 7 = .ok (.if_icmp .ge (28), 3) := by decide +kernel
theorem d_P_placeNodes_10 : decode b_P_placeNodes 10 = .ok (.aload_n 0, 1) := by decide +kernel
theorem d_P_placeNodes_11 : decode b_P_placeNodes 11 = .ok (.iload_n 1, 1) := by decide +kernel
theorem d_P_placeNodes_12 : decode b_P_placeNodes 12 = .ok (.invokevirtual 179, 3) := by decide +kernel
theorem d_P_placeNodes_15 : decode b_P_placeNodes 15 = .ok (.astore_n 2, 1) := by decide +kernel
theorem d_P_placeNodes_16 : decode b_P_placeNodes 16 = .ok (.aload_n 2, 1) := by decide +kernel
theorem d_P_placeNodes_17 : decode b_P_placeNodes 17 = .ok (.ifnull (12), 3) := by decide +kernel
theorem d_P_placeNodes_20 : decode b_P_placeNodes 20 = .ok (.aload_n 2, 1) := by decide +kernel
theorem d_P_placeNodes_21 : decode b_P_placeNodes 21 = .ok (.aload_n 0, 1) := by decide +kernel
theorem d_P_placeNodes_22 : decode b_P_placeNodes 22 = .ok (.aload_n 2, 1) := by decide +kernel
theorem d_P_placeNodes_23 : decode b_P_placeNodes 23 = .ok (.invokevirtual 199, 3) := by decide +kernel
theorem d_P_placeNodes_26 : decode b_P_placeNodes 26 = .ok (.putfield 183, 3) := by decide +kernel
theorem d_P_placeNodes_29 : decode b_P_placeNodes 29 = .ok (.iinc 1 (1), 3) := by decide +kernel
theorem d_P_placeNodes_32 : decode b_P_placeNodes 32 = .ok (.goto (-30), 3) := by decide +kernel
theorem d_P_placeNodes_35 : decode b_P_placeNodes 35 = .ok (.return_, 1) := by decide +kernel
theorem d_P_pages_0 : decode b_P_pages 0 = .ok (.iload_n 1, 1) := by decide +kernel
