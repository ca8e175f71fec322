theorem d_P_node_57 : decode b_P_node 57 = .ok (.getfield 96, 3) := by decide +kernel
theorem d_P_node_60 : decode b_P_node 60 = .ok (.getfield 93, 3) := by decide +kernel
theorem d_P_node_63 : decode b_P_node 63 = .ok (.ireturn, 1) := by decide +kernel
theorem d_P_node_64 : decode b_P_node 64 = .ok (.aload_n 3, 1) := by decide +kernel
theorem d_P_node_65 : decode b_P_node 65 = .ok (.getfield 116, 3) := by decide +kernel
theorem d_P_node_68 : decode b_P_node 68 = .ok (.ireturn, 1) := by decide +kernel
theorem d_P_node_69 : decode b_P_node 69 = .ok (.iconst (-1), 1) := by decide +kernel
theorem d_P_node_70 : decode b_P_node 70 = .ok (.ireturn, 1) := by decide +kernel
theorem d_P_about_0 : decode b_P_about 0 = .ok (.iload_n 1, 1) := by decide +kernel
theorem d_P_about_1 : decode b_P_about 1 = .ok (.tableswitch (137) (0) (6) #[43, 48, 53, 61, 80, 99, 118], 43) := by decide +kernel
theorem d_P_about_44 : decode b_P_about 44 = .ok (.aload_n 0, 1) := by decide +kernel
theorem d_P_about_45 : decode b_P_about 45 = .ok (.getfield 39, 3) := by decide +kernel
theorem d_P_about_48 : decode b_P_about 48 = .ok (.ireturn, 1) := by decide +kernel
theorem d_P_about_49 : decode b_P_about 49 = .ok (.aload_n 0, 1) := by decide +kernel
theorem d_P_about_50 : decode b_P_about 50 = .ok (.getfield 101, 3) := by decide +kernel
theorem d_P_about_53 : decode b_P_about 53 = .ok (.ireturn, 1) := by decide +kernel
theorem d_P_about_54 : decode b_P_about 54 = .ok (.aload_n 0, 1) := by decide +kernel
theorem d_P_about_55 : decode b_P_about 55 = .ok (.getfield 36, 3) := by decide +kernel
theorem d_P_about_58 : decode b_P_about 58 = .ok (.getfield 93, 3) := by decide +kernel
theorem d_P_about_61 : decode b_P_about 61 = .ok (.ireturn, 1) := by decide +kernel
theorem d_P_about_62 : decode b_P_about 62 = .ok (.aload_n 0, 1) := by decide +kernel
theorem d_P_about_63 : decode b_P_about 63 = .ok (.getfield 122, 3) := by decide +kernel
theorem d_P_about_66 : decode b_P_about 66 = .ok (.ifCond .eq (13), 3) := by decide +kernel
theorem d_P_about_69 : decode b_P_about 69 = .ok (.aload_n 0, 1) := by decide +kernel
theorem d_P_about_70 : decode b_P_about 70 = .ok (.getfield 25, 3) := by decide +kernel
theorem d_P_about_73 : decode b_P_about 73 = .ok (.invokevirtual 150, 3) := by decide +kernel
theorem d_P_about_76 : decode b_P_about 76 = .ok (.goto (4), 3) := by decide +kernel
theorem d_P_about_79 : decode b_P_about 79 = .ok (.iconst 0, 1) := by decide +kernel
theorem d_P_about_80 : decode b_P_about 80 = .ok (.ireturn, 1) := by decide +kernel
theorem d_P_about_81 : decode b_P_about 81 = .ok (.aload_n 0, 1) := by decide +kernel
theorem d_P_about_82 : decode b_P_about 82 = .ok (.getfield 122, 3) := by decide +kernel
theorem d_P_about_85 : decode b_P_about 85 = .ok (.ifCond .eq (13), 3) := by decide +kernel
theorem d_P_about_88 : decode b_P_about 88 = .ok (.aload_n 0, 1) := by decide +kernel
theorem d_P_about_89 : decode b_P_about 89 = .ok (.getfield 25, 3) := by decide +kernel
theorem d_P_about_92 : decode b_P_about 92 = .ok (.invokevirtual 167, 3) := by decide +kernel
theorem d_P_about_95 : decode b_P_about 95 = .ok (.goto (4), 3) := by decide +kernel
theorem d_P_about_98 : decode b_P_about 98 = .ok (.iconst 0, 1) := by decide +kernel
theorem d_P_about_99 : decode b_P_about 99 = .ok (.ireturn, 1) := by decide +kernel
theorem d_P_about_100 : decode b_P_about 100 = .ok (.aload_n 0, 1) := by decide +kernel
theorem d_P_about_101 : decode b_P_about 101 = .ok (.getfield 122, 3) := by decide +kernel
theorem d_P_about_104 : decode b_P_about 104 = .ok (.ifCond .eq (13), 3) := by decide +kernel
theorem d_P_about_107 : decode b_P_about 107 = .ok (.aload_n 0, 1) := by decide +kernel
theorem d_P_about_108 : decode b_P_about 108 = .ok (.getfield 25, 3) := by decide +kernel
theorem d_P_about_111 : decode b_P_about 111 = .ok (.getfield 186, 3) := by decide +kernel
theorem d_P_about_114 : decode b_P_about 114 = .ok (.goto (4), 3) := by decide +kernel
theorem d_P_about_117 : decode b_P_about 117 = .ok (.iconst 0, 1) := by decide +kernel
theorem d_P_about_118 : decode b_P_about 118 = .ok (.ireturn, 1) := by decide +kernel
theorem d_P_about_119 : decode b_P_about 119 = .ok (.aload_n 0, 1) := by decide +kernel
theorem d_P_about_120 : decode b_P_about 120 = .ok (.getfield 122, 3) := by decide +kernel
theorem d_P_about_123 : decode b_P_about 123 = .ok (.ifCond .eq (13), 3) := by decide +kernel
theorem d_P_about_126 : decode b_P_about 126 = .ok (.aload_n 0, 1) := by decide +kernel
theorem d_P_about_127 : decode b_P_about 127 = .ok (.getfield 25, 3) := by decide +kernel
theorem d_P_about_130 : decode b_P_about 130 = .ok (.getfield 189, 3) := by decide +kernel
theorem d_P_about_133 : decode b_P_about 133 = .ok (.goto (4), 3) := by decide +kernel
theorem d_P_about_136 : decode b_P_about 136 = .ok (.iconst 0, 1) := by decide +kernel
theorem d_P_about_137 : decode b_P_about 137 = .ok (.ireturn, 1) := by decide +kernel
theorem d_P_about_138 : decode b_P_about 138 = .ok (.iconst (-1), 1) := by decide +kernel
theorem d_P_about_139 : decode b_P_about 139 = .ok (.ireturn, 1) := by decide +kernel
theorem d_P_isNodeRefused_0 : decode b_P_isNodeRefused 0 = .ok (.aload_n 0, 1) := by decide +kernel
theorem d_P_isNodeRefused_1 : decode b_P_isNodeRefused 1 = .ok (.getfield 39, 3) := by decide +kernel
theorem d_P_isNodeRefused_4 : decode b_P_isNodeRefused 4 = .ok (.sipush (300), 3) := by decide +kernel
theorem d_P_isNodeRefused_7 : decode b_P_isNodeRefused 7 = .ok (.if_icmp .ge (15), 3) := by decide +kernel
theorem d_P_isNodeRefused_10 : decode b_P_isNodeRefused 10 = .ok (.aload_n 0, 1) := by decide +kernel
theorem d_P_isNodeRefused_11 : decode b_P_isNodeRefused 11 = .ok (.getfield 36, 3) := by decide +kernel
theorem d_P_isNodeRefused_14 : decode b_P_isNodeRefused 14 = .ok (.getfield 192, 3) := by decide +kernel
theorem d_P_isNodeRefused_17 : decode b_P_isNodeRefused 17 = .ok (.bipush (12), 2) := by decide +kernel
theorem d_P_isNodeRefused_19 : decode b_P_isNodeRefused 19 = .ok (.if_icmp .lt (7), 3) := by decide +kernel
theorem d_P_isNodeRefused_22 : decode b_P_isNodeRefused 22 = .ok (.iconst 1, 1) := by decide +kernel
theorem d_P_isNodeRefused_23 : decode b_P_isNodeRefused 23 = .ok (.goto (4), 3) := by decide +kernel
theorem d_P_isNodeRefused_26 : decode b_P_isNodeRefused 26 = .ok (.iconst 0, 1) := by decide +kernel
theorem d_P_isNodeRefused_27 : decode b_P_isNodeRefused 27 = .ok (.ireturn, 1) := by decide +kernel
theorem d_P_addNode_0 : decode b_P_addNode 0 = .ok (.new 9, 3) := by decide +kernel
theorem d_P_addNode_3 : decode b_P_addNode 3 = .ok (.dup, 1) := by decide +kernel
theorem d_P_addNode_4 : decode b_P_addNode 4 = .ok (.aload_n 0, 1) := by decide +kernel
theorem d_P_addNode_5 : decode b_P_addNode 5 = .ok (.getfield 39, 3) := by decide +kernel
theorem d_P_addNode_8 : decode b_P_addNode 8 = .ok (.iload_n 1, 1) := by decide +kernel
theorem d_P_addNode_9 : decode b_P_addNode 9 = .ok (.iload_n 2, 1) := by decide +kernel
theorem d_P_addNode_10 : decode b_P_addNode 10 = .ok (.aload_n 0, 1) := by decide +kernel
theorem d_P_addNode_11 : decode b_P_addNode 11 = .ok (.getfield 36, 3) := by decide +kernel
theorem d_P_addNode_14 : decode b_P_addNode 14 = .ok (.aload_n 0, 1) := by decide +kernel
theorem d_P_addNode_15 : decode b_P_addNode 15 = .ok (.getfield 18, 3) := by decide +kernel
theorem d_P_addNode_18 : decode b_P_addNode 18 = .ok (.getfield 73, 3) := by decide +kernel
theorem d_P_addNode_21 : decode b_P_addNode 21 = .ok (.invokevirtual 83, 3) := by decide +kernel
theorem d_P_addNode_24 : decode b_P_addNode 24 = .ok (.invokespecial 29, 3) := by decide +kernel
theorem d_P_addNode_27 : decode b_P_addNode 27 = .ok (.astore_n 3, 1) := by decide +kernel
theorem d_P_addNode_28 : decode b_P_addNode 28 = .ok (.aload_n 0, 1) := by decide +kernel
theorem d_P_addNode_29 : decode b_P_addNode 29 = .ok (.getfield 36, 3) := by decide +kernel
theorem d_P_addNode_32 : decode b_P_addNode 32 = .ok (.aload_n 3, 1) := by decide +kernel
theorem d_P_addNode_33 : decode b_P_addNode 33 = .ok (.invokevirtual 195, 3) := by decide +kernel
theorem d_P_addNode_36 : decode b_P_addNode 36 = .ok (.aload_n 0, 1) := by decide +kernel
theorem d_P_addNode_37 : decode b_P_addNode 37 = .ok (.getfield 39, 3) := by decide +kernel
theorem d_P_addNode_40 : decode b_P_addNode 40 = .ok (.aload_n 0, 1) := by decide +kernel
theorem d_P_addNode_41 : decode b_P_addNode 41 = .ok (.getfield 11, 3) := by decide +kernel
theorem d_P_addNode_44 : decode b_P_addNode 44 = .ok (.arraylength, 1) := by decide +kernel
theorem d_P_addNode_45 : decode b_P_addNode 45 = .ok (.if_icmp .ge (23), 3) := by decide +kernel
theorem d_P_addNode_48 : decode b_P_addNode 48 = .ok (.aload_n 0, 1) := by decide +kernel
theorem d_P_addNode_49 : decode b_P_addNode 49 = .ok (.getfield 11, 3) := by decide +kernel
theorem d_P_addNode_52 : decode b_P_addNode 52 = .ok (.aload_n 0, 1) := by decide +kernel
theorem d_P_addNode_53 : decode b_P_addNode 53 = .ok (.getfield 39, 3) := by decide +kernel
theorem d_P_addNode_56 : decode b_P_addNode 56 = .ok (.aload_n 3, 1) := by decide +kernel
theorem d_P_addNode_57 : decode b_P_addNode 57 = .ok (.aastore, 1) := by decide +kernel
theorem d_P_addNode_58 : decode b_P_addNode 58 = .ok (.aload_n 0, 1) := by decide +kernel
theorem d_P_addNode_59 : decode b_P_addNode 59 = .ok (.dup, 1) := by decide +kernel
theorem d_P_addNode_60 : decode b_P_addNode 60 = .ok (.getfield 39, 3) := by decide +kernel
theorem d_P_addNode_63 : decode b_P_addNode 63 = .ok (.iconst 1, 1) := by decide +kernel
theorem d_P_addNode_64 : decode b_P_addNode 64 = .ok (.iadd, 1) := by decide +kernel
theorem d_P_addNode_65 : decode b_P_addNode 65 = .ok (.putfield 39, 3) := by decide +kernel
theorem d_P_addNode_68 : decode b_P_addNode 68 = .ok (.aload_n 3, 1) := by decide +kernel
theorem d_P_addNode_69 : decode b_P_addNode 69 = .ok (.areturn, 1) := by decide +kernel
theorem d_P_addCharacters_0 : decode b_P_addCharacters 0 = .ok (.aload_n 0, 1) := by decide +kernel
theorem d_P_addCharacters_1 : decode b_P_addCharacters 1 = .ok (.getfield 18, 3) := by decide +kernel
theorem d_P_addCharacters_4 : decode b_P_addCharacters 4 = .ok (.getfield 73, 3) := by decide +kernel
theorem d_P_addCharacters_7 : decode b_P_addCharacters 7 = .ok (.iload_n 1, 1) := by decide +kernel
theorem d_P_addCharacters_8 : decode b_P_addCharacters 8 = .ok (.sipush (255), 3) := by decide +kernel
theorem d_P_addCharacters_11 : decode b_P_addCharacters 11 = .ok (.iand, 1) := by decide +kernel
theorem d_P_addCharacters_12 : decode b_P_addCharacters 12 = .ok (.invokevirtual 77, 3) := by decide +kernel
theorem d_P_addCharacters_15 : decode b_P_addCharacters 15 = .ok (.iload 5, 2) := by decide +kernel
theorem d_P_addCharacters_17 : decode b_P_addCharacters 17 = .ok (.iconst 1, 1) := by decide +kernel
theorem d_P_addCharacters_18 : decode b_P_addCharacters 18 = .ok (.if_icmp .le (18), 3) := by decide +kernel
theorem d_P_addCharacters_21 : decode b_P_addCharacters 21 = .ok (.aload_n 0, 1) := by decide +kernel
theorem d_P_addCharacters_22 : decode b_P_addCharacters 22 = .ok (.getfield 18, 3) := by decide +kernel
theorem d_P_addCharacters_25 : decode b_P_addCharacters 25 = .ok (.getfield 73, 3) := by decide +kernel
theorem d_P_addCharacters_28 : decode b_P_addCharacters 28 = .ok (.iload_n 2, 1) := by decide +kernel
theorem d_P_addCharacters_29 : decode b_P_addCharacters 29 = .ok (.sipush (255), 3) := by decide +kernel
theorem d_P_addCharacters_32 : decode b_P_addCharacters 32 = .ok (.iand, 1) := by decide +kernel
theorem d_P_addCharacters_33 : decode b_P_addCharacters 33 = .ok (.invokevirtual 77, 3) := by decide +kernel
theorem d_P_addCharacters_36 : decode b_P_addCharacters 36 = .ok (.iload 5, 2) := by decide +kernel
theorem d_P_addCharacters_38 : decode b_P_addCharacters 38 = .ok (.iconst 2, 1) := by decide +kernel
theorem d_P_addCharacters_39 : decode b_P_addCharacters 39 = .ok (.if_icmp .le (18), 3) := by decide +kernel
theorem d_P_addCharacters_42 : decode b_P_addCharacters 42 = .ok (.aload_n 0, 1) := by decide +kernel
theorem d_P_addCharacters_43 : decode b_P_addCharacters 43 = .ok (.getfield 18, 3) := by decide +kernel
theorem d_P_addCharacters_46 : decode b_P_addCharacters 46 = .ok (.getfield 73, 3) := by decide +kernel
theorem d_P_addCharacters_49 : decode b_P_addCharacters 49 = .ok (.iload_n 3, 1) := by decide +kernel
theorem d_P_addCharacters_50 : decode b_P_addCharacters 50 = .ok (.sipush (255), 3) := by decide +kernel
theorem d_P_addCharacters_53 : decode b_P_addCharacters 53 = .ok (.iand, 1) := by decide +kernel
theorem d_P_addCharacters_54 : decode b_P_addCharacters 54 = .ok (.invokevirtual 77, 3) := by decide +kernel
theorem d_P_addCharacters_57 : decode b_P_addCharacters 57 = .ok (.iload 5, 2) := by decide +kernel
theorem d_P_addCharacters_59 : decode b_P_addCharacters 59 = .ok (.iconst 3, 1) := by decide +kernel
theorem d_P_addCharacters_60 : decode b_P_addCharacters 60 = .ok (.if_icmp .le (19), 3) := by decide +kernel
theorem d_P_addCharacters_63 : decode b_P_addCharacters 63 = .ok (.aload_n 0, 1) := by decide +kernel
theorem d_P_addCharacters_64 : decode b_P_addCharacters 64 = .ok (.getfield 18, 3) := by decide +kernel
theorem d_P_addCharacters_67 : decode b_P_addCharacters 67 = .ok (.getfield 73, 3) := by decide +kernel
theorem d_P_addCharacters_70 : decode b_P_addCharacters 70 = .ok (.iload 4, 2) := by decide +kernel
theorem d_P_addCharacters_72 : decode b_P_addCharacters 72 = .ok (.sipush (255), 3) := by decide +kernel
theorem d_P_addCharacters_75 : decode b_P_addCharacters 75 = .ok (.iand, 1) := by decide +kernel
theorem d_P_addCharacters_76 : decode b_P_addCharacters 76 = .ok (.invokevirtual 77, 3) := by decide +kernel
theorem d_P_addCharacters_79 : decode b_P_addCharacters 79 = .ok (.aload_n 0, 1) := by decide +kernel
theorem d_P_addCharacters_80 : decode b_P_addCharacters 80 = .ok (.dup, 1) := by decide +kernel
theorem d_P_addCharacters_81 : decode b_P_addCharacters 81 = .ok (.getfield 101, 3) := by decide +kernel
theorem d_P_addCharacters_84 : decode b_P_addCharacters 84 = .ok (.iload 5, 2) := by decide +kernel
theorem d_P_addCharacters_86 : decode b_P_addCharacters 86 = .ok (.iadd, 1) := by decide +kernel
theorem d_P_addCharacters_87 : decode b_P_addCharacters 87 = .ok (.putfield 101, 3) := by decide +kernel
theorem d_P_addCharacters_90 : decode b_P_addCharacters 90 = .ok (.return_, 1) := by decide +kernel
theorem d_P_nodeAt_0 : decode b_P_nodeAt 0 = .ok (.iload_n 1, 1) := by decide +kernel
theorem d_P_nodeAt_1 : decode b_P_nodeAt 1 = .ok (.ifCond .lt (29), 3) := by decide +kernel
theorem d_P_nodeAt_4 : decode b_P_nodeAt 4 = .ok (.iload_n 1, 1) := by decide +kernel
theorem d_P_nodeAt_5 : decode b_P_nodeAt 5 = .ok (.aload_n 0, 1) := by decide +kernel
theorem d_P_nodeAt_6 : decode b_P_nodeAt 6 = .ok (.getfield 39, 3) := by decide +kernel
theorem d_P_nodeAt_9 : decode b_P_nodeAt 9 = .ok (.if_icmp .ge (21), 3) := by decide +kernel
theorem d_P_nodeAt_12 : decode b_P_nodeAt 12 = .ok (.iload_n 1, 1) := by decide +kernel
theorem d_P_nodeAt_13 : decode b_P_nodeAt 13 = .ok (.aload_n 0, 1) := by decide +kernel
theorem d_P_nodeAt_14 : decode b_P_nodeAt 14 = .ok (.getfield 11, 3) := by decide +kernel
theorem d_P_nodeAt_17 : decode b_P_nodeAt 17 = .ok (.arraylength, 1) := by decide +kernel
theorem d_P_nodeAt_18 : decode b_P_nodeAt 18 = .ok (.if_icmp .ge (12), 3) := by decide +kernel
theorem d_P_nodeAt_21 : decode b_P_nodeAt 21 = .ok (.aload_n 0, 1) := by decide +kernel
theorem d_P_nodeAt_22 : decode b_P_nodeAt 22 = .ok (.getfield 11, 3) := by decide +kernel
theorem d_P_nodeAt_25 : decode b_P_nodeAt 25 = .ok (.iload_n 1, 1) := by decide +kernel
theorem d_P_nodeAt_26 : decode b_P_nodeAt 26 = .ok (.aaload, 1) := by decide +kernel
theorem d_P_nodeAt_27 : decode b_P_nodeAt 27 = .ok (.goto (4), 3) := by decide +kernel
theorem d_P_nodeAt_30 : decode b_P_nodeAt 30 = .ok (.aconst_null, 1) := by decide +kernel
theorem d_P_nodeAt_31 : decode b_P_nodeAt 31 = .ok (.areturn, 1) := by decide +kernel
theorem d_P_placeNodes_0 : decode b_P_placeNodes 0 = .ok (.iconst 0, 1) := by decide +kernel
theorem d_P_placeNodes_1 : decode b_P_placeNodes 1 = .ok (.istore_n 1, 1) := by decide +kernel
theorem d_P_placeNodes_2 : decode b_P_placeNodes 2 = .ok (.iload_n 1, 1) := by decide +kernel
theorem d_P_placeNodes_3 : decode b_P_placeNodes 3 = .ok (.aload_n 0, 1) := by decide +kernel
theorem d_P_placeNodes_4 : decode b_P_placeNodes 4 = .ok (.getfield 39, 3) := by decide +kernel
theorem d_P_placeNodes_7 : decode b_P_placeNodes 7 = .ok (.if_icmp .ge (28), 3) := by decide +kernel
theorem d_P_placeNodes_10 : decode b_P_placeNodes 10 = .ok (.aload_n 0, 1) := by decide +kernel
theorem d_P_placeNodes_11 : decode b_P_placeNodes 11 = .ok (.iload_n 1, 1) := by decide +kernel
theorem d_P_placeNodes_12 : decode b_P_placeNodes 12 = .ok (.invokevirtual 179, 3) := by decide +kernel
theorem d_P_placeNodes_15 : decode b_P_placeNodes 15 = .ok (.astore_n 2, 1) := by decide +kernel
theorem d_P_placeNodes_16 : decode b_P_placeNodes 16 = .ok (.aload_n 2, 1) := by decide +kernel
theorem d_P_placeNodes_17 : decode b_P_placeNodes 17 = .ok (.ifnull (12), 3) := by decide +kernel
theorem d_P_placeNodes_20 : decode b_P_placeNodes 20 = .ok (.aload_n 2, 1) := by decide +kernel
theorem d_P_placeNodes_21 : decode b_P_placeNodes 21 = .ok (.aload_n 0, 1) := by decide +kernel
theorem d_P_placeNodes_22 : decode b_P_placeNodes 22 = .ok (.aload_n 2, 1) := by decide +kernel
theorem d_P_placeNodes_23 : decode b_P_placeNodes 23 = .ok (.invokevirtual 199, 3) := by decide +kernel
theorem d_P_placeNodes_26 : decode b_P_placeNodes 26 = .ok (.putfield 183, 3) := by decide +kernel
theorem d_P_placeNodes_29 : decode b_P_placeNodes 29 = .ok (.iinc 1 (1), 3) := by decide +kernel
theorem d_P_placeNodes_32 : decode b_P_placeNodes 32 = .ok (.goto (-30), 3) := by decide +kernel
theorem d_P_placeNodes_35 : decode b_P_placeNodes 35 = .ok (.return_, 1) := by decide +kernel
theorem d_P_pageOfNode_0 : decode b_P_pageOfNode 0 = .ok (.aload_n 1, 1) := by decide +kernel
theorem d_P_pageOfNode_1 : decode b_P_pageOfNode 1 = .ok (.getfield 96, 3) := by decide +kernel
theorem d_P_pageOfNode_4 : decode b_P_pageOfNode 4 = .ok (.astore_n 2, 1) := by decide +kernel
theorem d_P_pageOfNode_5 : decode b_P_pageOfNode 5 = .ok (.aload_n 2, 1) := by decide +kernel
theorem d_P_pageOfNode_6 : decode b_P_pageOfNode 6 = .ok (.ifnull (24), 3) := by decide +kernel
theorem d_P_pageOfNode_9 : decode b_P_pageOfNode 9 = .ok (.aload_n 1, 1) := by decide +kernel
theorem d_P_pageOfNode_10 : decode b_P_pageOfNode 10 = .ok (.invokevirtual 203, 3) := by decide +kernel
theorem d_P_pageOfNode_13 : decode b_P_pageOfNode 13 = .ok (.ifCond .eq (17), 3) := by decide +kernel
theorem d_P_pageOfNode_16 : decode b_P_pageOfNode 16 = .ok (.aload_n 2, 1) := by decide +kernel
theorem d_P_pageOfNode_17 : decode b_P_pageOfNode 17 = .ok (.getfield 109, 3) := by decide +kernel
theorem d_P_pageOfNode_20 : decode b_P_pageOfNode 20 = .ok (.bipush (7), 2) := by decide +kernel
theorem d_P_pageOfNode_22 : decode b_P_pageOfNode 22 = .ok (.if_icmp .eq (8), 3) := by decide +kernel
theorem d_P_pageOfNode_25 : decode b_P_pageOfNode 25 = .ok (.aload_n 2, 1) := by decide +kernel
theorem d_P_pageOfNode_26 : decode b_P_pageOfNode 26 = .ok (.getfield 183, 3) := by decide +kernel
theorem d_P_pageOfNode_29 : decode b_P_pageOfNode 29 = .ok (.ireturn, 1) := by decide +kernel
theorem d_P_pageOfNode_30 : decode b_P_pageOfNode 30 = .ok (.aload_n 0, 1) := by decide +kernel
theorem d_P_pageOfNode_31 : decode b_P_pageOfNode 31 = .ok (.getfield 25, 3) := by decide +kernel
theorem d_P_pageOfNode_34 : decode b_P_pageOfNode 34 = .ok (.aload_n 1, 1) := by decide +kernel
theorem d_P_pageOfNode_35 : decode b_P_pageOfNode 35 = .ok (.getfield 206, 3) := by decide +kernel
theorem d_P_pageOfNode_38 : decode b_P_pageOfNode 38 = .ok (.invokevirtual 209, 3) := by decide +kernel
theorem d_P_pageOfNode_41 : decode b_P_pageOfNode 41 = .ok (.ireturn, 1) := by decide +kernel
theorem d_P_isNumberOf_0 : decode b_P_isNumberOf 0 = .ok (.iload_n 0, 1) := by decide +kernel
theorem d_P_isNumberOf_1 : decode b_P_isNumberOf 1 = .ok (.iconst 1, 1) := by decide +kernel
theorem d_P_isNumberOf_2 : decode b_P_isNumberOf 2 = .ok (.if_icmp .ne (20), 3) := by decide +kernel
theorem d_P_isNumberOf_5 : decode b_P_isNumberOf 5 = .ok (.iload_n 1, 1) := by decide +kernel
theorem d_P_isNumberOf_6 : decode b_P_isNumberOf 6 = .ok (.iconst 1, 1) := by decide +kernel
theorem d_P_isNumberOf_7 : decode b_P_isNumberOf 7 = .ok (.if_icmp .lt (13), 3) := by decide +kernel
theorem d_P_isNumberOf_10 : decode b_P_isNumberOf 10 = .ok (.iload_n 1, 1) := by decide +kernel
theorem d_P_isNumberOf_11 : decode b_P_isNumberOf 11 = .ok (.bipush (6), 2) := by decide +kernel
theorem d_P_isNumberOf_13 : decode b_P_isNumberOf 13 = .ok (.if_icmp .gt (7), 3) := by decide +kernel
theorem d_P_isNumberOf_16 : decode b_P_isNumberOf 16 = .ok (.iconst 1, 1) := by decide +kernel
theorem d_P_isNumberOf_17 : decode b_P_isNumberOf 17 = .ok (.goto (4), 3) := by decide +kernel
theorem d_P_isNumberOf_20 : decode b_P_isNumberOf 20 = .ok (.iconst 0, 1) := by decide +kernel
theorem d_P_isNumberOf_21 : decode b_P_isNumberOf 21 = .ok (.ireturn, 1) := by decide +kernel
theorem d_P_isNumberOf_22 : decode b_P_isNumberOf 22 = .ok (.iload_n 0, 1) := by decide +kernel
theorem d_P_isNumberOf_23 : decode b_P_isNumberOf 23 = .ok (.bipush (6), 2) := by decide +kernel
theorem d_P_isNumberOf_25 : decode b_P_isNumberOf 25 = .ok (.if_icmp .ne (13), 3) := by decide +kernel
theorem d_P_isNumberOf_28 : decode b_P_isNumberOf 28 = .ok (.iload_n 1, 1) := by decide +kernel
theorem d_P_isNumberOf_29 : decode b_P_isNumberOf 29 = .ok (.ifCond .lt (13), 3) := by decide +kernel
theorem d_P_isNumberOf_32 : decode b_P_isNumberOf 32 = .ok (.iload_n 1, 1) := by decide +kernel
theorem d_P_isNumberOf_33 : decode b_P_isNumberOf 33 = .ok (.ldc 212, 2) := by decide +kernel
theorem d_P_isNumberOf_35 : decode b_P_isNumberOf 35 = .ok (.if_icmp .gt (7), 3) := by decide +kernel
theorem d_P_isNumberOf_38 : decode b_P_isNumberOf 38 = .ok (.iconst 1, 1) := by decide +kernel
theorem d_P_isNumberOf_39 : decode b_P_isNumberOf 39 = .ok (.goto (4), 3) := by decide +kernel
theorem d_P_isNumberOf_42 : decode b_P_isNumberOf 42 = .ok (.iconst 0, 1) := by decide +kernel
theorem d_P_isNumberOf_43 : decode b_P_isNumberOf 43 = .ok (.ireturn, 1) := by decide +kernel
theorem d_P_isOneOf_0 : decode b_P_isOneOf 0 = .ok (.iload_n 0, 1) := by decide +kernel
theorem d_P_isOneOf_1 : decode b_P_isOneOf 1 = .ok (.ifCond .lt (22), 3) := by decide +kernel
theorem d_P_isOneOf_4 : decode b_P_isOneOf 4 = .ok (.iload_n 0, 1) := by decide +kernel
theorem d_P_isOneOf_5 : decode b_P_isOneOf 5 = .ok (.bipush (10), 2) := by decide +kernel
theorem d_P_isOneOf_7 : decode b_P_isOneOf 7 = .ok (.if_icmp .gt (16), 3) := by decide +kernel
theorem d_P_isOneOf_10 : decode b_P_isOneOf 10 = .ok (.iload_n 1, 1) := by decide +kernel
theorem d_P_isOneOf_11 : decode b_P_isOneOf 11 = .ok (.iload_n 0, 1) := by decide +kernel
theorem d_P_isOneOf_12 : decode b_P_isOneOf 12 = .ok (.ishr, 1) := by decide +kernel
theorem d_P_isOneOf_13 : decode b_P_isOneOf 13 = .ok (.iconst 1, 1) := by decide +kernel
theorem d_P_isOneOf_14 : decode b_P_isOneOf 14 = .ok (.iand, 1) := by decide +kernel
theorem d_P_isOneOf_15 : decode b_P_isOneOf 15 = .ok (.iconst 1, 1) := by decide +kernel
theorem d_P_isOneOf_16 : decode b_P_isOneOf 16 = .ok (.if_icmp .ne (7), 3) := by decide +kernel
theorem d_P_isOneOf_19 : decode b_P_isOneOf 19 = .ok (.iconst 1, 1) := by decide +kernel
theorem d_P_isOneOf_20 : decode b_P_isOneOf 20 = .ok (.goto (4), 3) := by decide +kernel
theorem d_P_isOneOf_23 : decode b_P_isOneOf 23 = .ok (.iconst 0, 1) := by decide +kernel
theorem d_P_isOneOf_24 : decode b_P_isOneOf 24 = .ok (.ireturn, 1) := by decide +kernel
theorem d_P_isWhite_0 : decode b_P_isWhite 0 = .ok (.iload_n 0, 1) := by decide +kernel
theorem d_P_isWhite_1 : decode b_P_isWhite 1 = .ok (.bipush (9), 2) := by decide +kernel
theorem d_P_isWhite_3 : decode b_P_isWhite 3 = .ok (.if_icmp .eq (21), 3) := by decide +kernel
theorem d_P_isWhite_6 : decode b_P_isWhite 6 = .ok (.iload_n 0, 1) := by decide +kernel
theorem d_P_isWhite_7 : decode b_P_isWhite 7 = .ok (.bipush (10), 2) := by decide +kernel
theorem d_P_isWhite_9 : decode b_P_isWhite 9 = .ok (.if_icmp .eq (15), 3) := by decide +kernel
theorem d_P_isWhite_12 : decode b_P_isWhite 12 = .ok (.iload_n 0, 1) := by decide +kernel
theorem d_P_isWhite_13 : decode b_P_isWhite 13 = .ok (.bipush (13), 2) := by decide +kernel
theorem d_P_isWhite_15 : decode b_P_isWhite 15 = .ok (.if_icmp .eq (9), 3) := by decide +kernel
theorem d_P_isWhite_18 : decode b_P_isWhite 18 = .ok (.iload_n 0, 1) := by decide +kernel
theorem d_P_isWhite_19 : decode b_P_isWhite 19 = .ok (.bipush (32), 2) := by decide +kernel
theorem d_P_isWhite_21 : decode b_P_isWhite 21 = .ok (.if_icmp .ne (7), 3) := by decide +kernel
theorem d_P_isWhite_24 : decode b_P_isWhite 24 = .ok (.iconst 1, 1) := by decide +kernel
theorem d_P_isWhite_25 : decode b_P_isWhite 25 = .ok (.goto (4), 3) := by decide +kernel
theorem d_P_isWhite_28 : decode b_P_isWhite 28 = .ok (.iconst 0, 1) := by decide +kernel
theorem d_P_isWhite_29 : decode b_P_isWhite 29 = .ok (.ireturn, 1) := by decide +kernel
theorem d_M_init_0 : decode b_M_init 0 = .ok (.aload_n 0, 1) := by decide +kernel
theorem d_M_init_1 : decode b_M_init 1 = .ok (.invokespecial 1, 3) := by decide +kernel
theorem d_M_init_4 : decode b_M_init 4 = .ok (.aload_n 0, 1) := by decide +kernel
theorem d_M_init_5 : decode b_M_init 5 = .ok (.sipush (300), 3) := by decide +kernel
theorem d_M_init_8 : decode b_M_init 8 = .ok (.newarray .int, 2) := by decide +kernel
theorem d_M_init_10 : decode b_M_init 10 = .ok (.putfield 7, 3) := by decide +kernel
theorem d_M_init_13 : decode b_M_init 13 = .ok (.aload_n 0, 1) := by decide +kernel
theorem d_M_init_14 : decode b_M_init 14 = .ok (.sipush (300), 3) := by decide +kernel
theorem d_M_init_17 : decode b_M_init 17 = .ok (.newarray .int, 2) := by decide +kernel
theorem d_M_init_19 : decode b_M_init 19 = .ok (.putfield 13, 3) := by decide +kernel
theorem d_M_init_22 : decode b_M_init 22 = .ok (.aload_n 0, 1) := by decide +kernel
theorem d_M_init_23 : decode b_M_init 23 = .ok (.sipush (300), 3) := by decide +kernel
theorem d_M_init_26 : decode b_M_init 26 = .ok (.newarray .int, 2) := by decide +kernel
theorem d_M_init_28 : decode b_M_init 28 = .ok (.putfield 16, 3) := by decide +kernel
theorem d_M_init_31 : decode b_M_init 31 = .ok (.aload_n 0, 1) := by decide +kernel
theorem d_M_init_32 : decode b_M_init 32 = .ok (.sipush (300), 3) := by decide +kernel
theorem d_M_init_35 : decode b_M_init 35 = .ok (.newarray .int, 2) := by decide +kernel
theorem d_M_init_37 : decode b_M_init 37 = .ok (.putfield 19, 3) := by decide +kernel
theorem d_M_init_40 : decode b_M_init 40 = .ok (.aload_n 0, 1) := by decide +kernel
theorem d_M_init_41 : decode b_M_init 41 = .ok (.sipush (300), 3) := by decide +kernel
theorem d_M_init_44 : decode b_M_init 44 = .ok (.newarray .int, 2) := by decide +kernel
theorem d_M_init_46 : decode b_M_init 46 = .ok (.putfield 22, 3) := by decide +kernel
theorem d_M_init_49 : decode b_M_init 49 = .ok (.aload_n 0, 1) := by decide +kernel
theorem d_M_init_50 : decode b_M_init 50 = .ok (.sipush (300), 3) := by decide +kernel
theorem d_M_init_53 : decode b_M_init 53 = .ok (.newarray .int, 2) := by decide +kernel
theorem d_M_init_55 : decode b_M_init 55 = .ok (.putfield 25, 3) := by decide +kernel
theorem d_M_init_58 : decode b_M_init 58 = .ok (.aload_n 0, 1) := by decide +kernel
theorem d_M_init_59 : decode b_M_init 59 = .ok (.sipush (300), 3) := by decide +kernel
theorem d_M_init_62 : decode b_M_init 62 = .ok (.newarray .int, 2) := by decide +kernel
theorem d_M_init_64 : decode b_M_init 64 = .ok (.putfield 28, 3) := by decide +kernel
theorem d_M_init_67 : decode b_M_init 67 = .ok (.aload_n 0, 1) := by decide +kernel
theorem d_M_init_68 : decode b_M_init 68 = .ok (.sipush (4000), 3) := by decide +kernel
theorem d_M_init_71 : decode b_M_init 71 = .ok (.newarray .byte, 2) := by decide +kernel
theorem d_M_init_73 : decode b_M_init 73 = .ok (.putfield 31, 3) := by decide +kernel
theorem d_M_init_76 : decode b_M_init 76 = .ok (.aload_n 0, 1) := by decide +kernel
theorem d_M_init_77 : decode b_M_init 77 = .ok (.sipush (1501), 3) := by decide +kernel
theorem d_M_init_80 : decode b_M_init 80 = .ok (.newarray .int, 2) := by decide +kernel
theorem d_M_init_82 : decode b_M_init 82 = .ok (.putfield 35, 3) := by decide +kernel
theorem d_M_init_85 : decode b_M_init 85 = .ok (.aload_n 0, 1) := by decide +kernel
theorem d_M_init_86 : decode b_M_init 86 = .ok (.sipush (1501), 3) := by decide +kernel
theorem d_M_init_89 : decode b_M_init 89 = .ok (.newarray .int, 2) := by decide +kernel
theorem d_M_init_91 : decode b_M_init 91 = .ok (.putfield 38, 3) := by decide +kernel
theorem d_M_init_94 : decode b_M_init 94 = .ok (.aload_n 0, 1) := by decide +kernel
theorem d_M_init_95 : decode b_M_init 95 = .ok (.sipush (1501), 3) := by decide +kernel
theorem d_M_init_98 : decode b_M_init 98 = .ok (.newarray .int, 2) := by decide +kernel
theorem d_M_init_100 : decode b_M_init 100 = .ok (.putfield 41, 3) := by decide +kernel
theorem d_M_init_103 : decode b_M_init 103 = .ok (.aload_n 0, 1) := by decide +kernel
theorem d_M_init_104 : decode b_M_init 104 = .ok (.sipush (1501), 3) := by decide +kernel
theorem d_M_init_107 : decode b_M_init 107 = .ok (.newarray .int, 2) := by decide +kernel
theorem d_M_init_109 : decode b_M_init 109 = .ok (.putfield 44, 3) := by decide +kernel
theorem d_M_init_112 : decode b_M_init 112 = .ok (.aload_n 0, 1) := by decide +kernel
theorem d_M_init_113 : decode b_M_init 113 = .ok (.sipush (1501), 3) := by decide +kernel
theorem d_M_init_116 : decode b_M_init 116 = .ok (.newarray .boolean, 2) := by decide +kernel
theorem d_M_init_118 : decode b_M_init 118 = .ok (.putfield 47, 3) := by decide +kernel
theorem d_M_init_121 : decode b_M_init 121 = .ok (.aload_n 0, 1) := by decide +kernel
theorem d_M_init_122 : decode b_M_init 122 = .ok (.ldc 51, 2) := by decide +kernel
theorem d_M_init_124 : decode b_M_init 124 = .ok (.newarray .byte, 2) := by decide +kernel
theorem d_M_init_126 : decode b_M_init 126 = .ok (.putfield 52, 3) := by decide +kernel
theorem d_M_init_129 : decode b_M_init 129 = .ok (.aload_n 0, 1) := by decide +kernel
theorem d_M_init_130 : decode b_M_init 130 = .ok (.sipush (300), 3) := by decide +kernel
theorem d_M_init_133 : decode b_M_init 133 = .ok (.newarray .int, 2) := by decide +kernel
theorem d_M_init_135 : decode b_M_init 135 = .ok (.putfield 55, 3) := by decide +kernel
theorem d_M_init_138 : decode b_M_init 138 = .ok (.aload_n 0, 1) := by decide +kernel
theorem d_M_init_139 : decode b_M_init 139 = .ok (.sipush (300), 3) := by decide +kernel
theorem d_M_init_142 : decode b_M_init 142 = .ok (.newarray .int, 2) := by decide +kernel
theorem d_M_init_144 : decode b_M_init 144 = .ok (.putfield 58, 3) := by decide +kernel
theorem d_M_init_147 : decode b_M_init 147 = .ok (.aload_n 0, 1) := by decide +kernel
theorem d_M_init_148 : decode b_M_init 148 = .ok (.bipush (14), 2) := by decide +kernel
theorem d_M_init_150 : decode b_M_init 150 = .ok (.newarray .int, 2) := by decide +kernel
theorem d_M_init_152 : decode b_M_init 152 = .ok (.putfield 61, 3) := by decide +kernel
theorem d_M_init_155 : decode b_M_init 155 = .ok (.aload_n 0, 1) := by decide +kernel
theorem d_M_init_156 : decode b_M_init 156 = .ok (.bipush (14), 2) := by decide +kernel
theorem d_M_init_158 : decode b_M_init 158 = .ok (.newarray .int, 2) := by decide +kernel
theorem d_M_init_160 : decode b_M_init 160 = .ok (.putfield 64, 3) := by decide +kernel
theorem d_M_init_163 : decode b_M_init 163 = .ok (.aload_n 0, 1) := by decide +kernel
theorem d_M_init_164 : decode b_M_init 164 = .ok (.bipush (14), 2) := by decide +kernel
theorem d_M_init_166 : decode b_M_init 166 = .ok (.newarray .int, 2) := by decide +kernel
theorem d_M_init_168 : decode b_M_init 168 = .ok (.putfield 67, 3) := by decide +kernel
theorem d_M_init_171 : decode b_M_init 171 = .ok (.aload_n 0, 1) := by decide +kernel
theorem d_M_init_172 : decode b_M_init 172 = .ok (.bipush (14), 2) := by decide +kernel
theorem d_M_init_174 : decode b_M_init 174 = .ok (.newarray .int, 2) := by decide +kernel
theorem d_M_init_176 : decode b_M_init 176 = .ok (.putfield 70, 3) := by decide +kernel
theorem d_M_init_179 : decode b_M_init 179 = .ok (.aload_n 0, 1) := by decide +kernel
theorem d_M_init_180 : decode b_M_init 180 = .ok (.bipush (14), 2) := by decide +kernel
theorem d_M_init_182 : decode b_M_init 182 = .ok (.newarray .boolean, 2) := by decide +kernel
theorem d_M_init_184 : decode b_M_init 184 = .ok (.putfield 73, 3) := by decide +kernel
theorem d_M_init_187 : decode b_M_init 187 = .ok (.aload_n 0, 1) := by decide +kernel
theorem d_M_init_188 : decode b_M_init 188 = .ok (.bipush (14), 2) := by decide +kernel
theorem d_M_init_190 : decode b_M_init 190 = .ok (.newarray .boolean, 2) := by decide +kernel
theorem d_M_init_192 : decode b_M_init 192 = .ok (.putfield 76, 3) := by decide +kernel
theorem d_M_init_195 : decode b_M_init 195 = .ok (.aload_n 0, 1) := by decide +kernel
theorem d_M_init_196 : decode b_M_init 196 = .ok (.bipush (14), 2) := by decide +kernel
theorem d_M_init_198 : decode b_M_init 198 = .ok (.newarray .boolean, 2) := by decide +kernel
theorem d_M_init_200 : decode b_M_init 200 = .ok (.putfield 79, 3) := by decide +kernel
theorem d_M_init_203 : decode b_M_init 203 = .ok (.aload_n 0, 1) := by decide +kernel
theorem d_M_init_204 : decode b_M_init 204 = .ok (.bipush (14), 2) := by decide +kernel
theorem d_M_init_206 : decode b_M_init 206 = .ok (.newarray .boolean, 2) := by decide +kernel
theorem d_M_init_208 : decode b_M_init 208 = .ok (.putfield 82, 3) := by decide +kernel
theorem d_M_init_211 : decode b_M_init 211 = .ok (.aload_n 0, 1) := by decide +kernel
theorem d_M_init_212 : decode b_M_init 212 = .ok (.sipush (4010), 3) := by decide +kernel
theorem d_M_init_215 : decode b_M_init 215 = .ok (.newarray .int, 2) := by decide +kernel
theorem d_M_init_217 : decode b_M_init 217 = .ok (.putfield 85, 3) := by decide +kernel
theorem d_M_init_220 : decode b_M_init 220 = .ok (.aload_n 0, 1) := by decide +kernel
theorem d_M_init_221 : decode b_M_init 221 = .ok (.sipush (4010), 3) := by decide +kernel
theorem d_M_init_224 : decode b_M_init 224 = .ok (.newarray .int, 2) := by decide +kernel
theorem d_M_init_226 : decode b_M_init 226 = .ok (.putfield 88, 3) := by decide +kernel
theorem d_M_init_229 : decode b_M_init 229 = .ok (.aload_n 0, 1) := by decide +kernel
theorem d_M_init_230 : decode b_M_init 230 = .ok (.sipush (4300), 3) := by decide +kernel
theorem d_M_init_233 : decode b_M_init 233 = .ok (.newarray .int, 2) := by decide +kernel
theorem d_M_init_235 : decode b_M_init 235 = .ok (.putfield 91, 3) := by decide +kernel
theorem d_M_init_238 : decode b_M_init 238 = .ok (.aload_n 0, 1) := by decide +kernel
theorem d_M_init_239 : decode b_M_init 239 = .ok (.invokevirtual 94, 3) := by decide +kernel
theorem d_M_init_242 : decode b_M_init 242 = .ok (.return_, 1) := by decide +kernel
theorem d_M_thrown_0 : decode b_M_thrown 0 = .ok (.aload_n 0, 1) := by decide +kernel
theorem d_M_thrown_1 : decode b_M_thrown 1 = .ok (.getfield 97, 3) := by decide +kernel
theorem d_M_thrown_4 : decode b_M_thrown 4 = .ok (.ireturn, 1) := by decide +kernel
theorem d_M_empty_0 : decode b_M_empty 0 = .ok (.aload_n 0, 1) := by decide +kernel
theorem d_M_empty_1 : decode b_M_empty 1 = .ok (.getfield 7, 3) := by decide +kernel
theorem d_M_empty_4 : decode b_M_empty 4 = .ok (.iconst 0, 1) := by decide +kernel
theorem d_M_empty_5 : decode b_M_empty 5 = .ok (.bipush (11), 2) := by decide +kernel
theorem d_M_empty_7 : decode b_M_empty 7 = .ok (.iastore, 1) := by decide +kernel
theorem d_M_empty_8 : decode b_M_empty 8 = .ok (.aload_n 0, 1) := by decide +kernel
theorem d_M_empty_9 : decode b_M_empty 9 = .ok (.getfield 13, 3) := by decide +kernel
theorem d_M_empty_12 : decode b_M_empty 12 = .ok (.iconst 0, 1) := by decide +kernel
theorem d_M_empty_13 : decode b_M_empty 13 = .ok (.iconst (-1), 1) := by decide +kernel
theorem d_M_empty_14 : decode b_M_empty 14 = .ok (.iastore, 1) := by decide +kernel
theorem d_M_empty_15 : decode b_M_empty 15 = .ok (.aload_n 0, 1) := by decide +kernel
theorem d_M_empty_16 : decode b_M_empty 16 = .ok (.getfield 19, 3) := by decide +kernel
theorem d_M_empty_19 : decode b_M_empty 19 = .ok (.iconst 0, 1) := by decide +kernel
theorem d_M_empty_20 : decode b_M_empty 20 = .ok (.iconst 1, 1) := by decide +kernel
theorem d_M_empty_21 : decode b_M_empty 21 = .ok (.iastore, 1) := by decide +kernel
