theorem d_P_node_68 : decode b_P_node 68 = .ok (.ireturn, 1) := by decide +kernel
theorem d_P_node_69 : decode b_P_node 69 = .ok (.iconst (-1), 1) := by decide +kernel
theorem d_P_node_70 : decode b_P_node 70 = .ok (.ireturn, 1) := by decide +kernel
theorem d_P_about_0 : decode b_P_about 0 = .ok (.iload_n 1, 1) := by decide +kernel
theorem d_P_about_1 : decode b_P_about 1 = .ok (.tableswitch (137) (0) (6) #[43, 48, 53, 61, 80, 99, 118], 43) := by decide +kernel
theorem d_P_about_44 : decode b_P_about 44 = .ok (.aload_n 0, 1) := by decide +kernel
theorem d_P_about_45 : decode b_P_about 45 = .ok (.getfield 39, 3) := by decide +kernel
theorem d_P_about_48 : decode b_P_about 48 = .ok (.ireturn, 1) := by decide +kernel
theorem d_P_about_49 : decode b_P_about 49 = .ok (.aload_n 0, 1) := by decide +kernel
theorem d_P_about_50 : decode b_P_about 50 = .ok (.getfield 101, 3) := by decide +kernel
theorem d_P_about_53 : decode b_P_about 53 = .ok (.ireturn, 1) := by decide +kernel
theorem d_P_about_54 : decode b_P_about 54 = .ok (.aload_n 0, 1) := by decide +kernel
theorem d_P_about_55 : decode b_P_about 55 = .ok (.getfield 36, 3) := by decide +kernel
theorem d_P_about_58 : decode b_P_about 58 = .ok (.getfield 93, 3) := by decide +kernel
theorem d_P_about_61 : decode b_P_about 61 = .ok (.ireturn, 1) := by decide +kernel
theorem d_P_about_62 : decode b_P_about 62 = .ok (.aload_n 0, 1) := by decide +kernel
theorem d_P_about_63 : decode b_P_about 63 = .ok (.getfield 122, 3) := by decide +kernel
theorem d_P_about_66 : decode b_P_about 66 = .ok (.ifCond .eq (13), 3) := by decide +kernel
theorem d_P_about_69 : decode b_P_about 69 = .ok (.aload_n 0, 1) := by decide +kernel
theorem d_P_about_70 : decode b_P_about 70 = .ok (.getfield 25, 3) := by decide +kernel
theorem d_P_about_73 : decode b_P_about 73 = .ok (.invokevirtual 150, 3) := by decide +kernel
theorem d_P_about_76 : decode b_P_about 76 = .ok (.goto (4), 3) := by decide +kernel
theorem d_P_about_79 : decode b_P_about 79 = .ok (.iconst 0, 1) := by decide +kernel
theorem d_P_about_80 : decode b_P_about 80 = .ok (.ireturn, 1) := by decide +kernel
theorem d_P_about_81 : decode b_P_about 81 = .ok (.aload_n 0, 1) := by decide +kernel
theorem d_P_about_82 : decode b_P_about 82 = .ok (.getfield 122, 3) := by decide +kernel
theorem d_P_about_85 : decode b_P_about 85 = .ok (.ifCond .eq (13), 3) := by decide +kernel
theorem d_P_about_88 : decode b_P_about 88 = .ok (.aload_n 0, 1) := by decide +kernel
theorem d_P_about_89 : decode b_P_about 89 = .ok (.getfield 25, 3) := by decide +kernel
theorem d_P_about_92 : decode b_P_about 92 = .ok (.invokevirtual 167, 3) := by decide +kernel
theorem d_P_about_95 : decode b_P_about 95 = .ok (.goto (4), 3) := by decide +kernel
theorem d_P_about_98 : decode b_P_about 98 = .ok (.iconst 0, 1) := by decide +kernel
theorem d_P_about_99 : decode b_P_about 99 = .ok (.ireturn, 1) := by decide +kernel
theorem d_P_about_100 : decode b_P_about 100 = .ok (.aload_n 0, 1) := by decide +kernel
theorem d_P_about_101 : decode b_P_about 101 = .ok (.getfield 122, 3) := by decide +kernel
theorem d_P_about_104 : decode b_P_about 104 = .ok (.ifCond .eq (13), 3) := by decide +kernel
theorem d_P_about_107 : decode b_P_about 107 = .ok (.aload_n 0, 1) := by decide +kernel
theorem d_P_about_108 : decode b_P_about 108 = .ok (.getfield 25, 3) := by decide +kernel
theorem d_P_about_111 : decode b_P_about 111 = .ok (.getfield 186, 3) := by decide +kernel
theorem d_P_about_114 : decode b_P_about 114 = .ok (.goto (4), 3) := by decide +kernel
theorem d_P_about_117 : decode b_P_about 117 = .ok (.iconst 0, 1) := by decide +kernel
theorem d_P_about_118 : decode b_P_about 118 = .ok (.ireturn, 1) := by decide +kernel
theorem d_P_about_119 : decode b_P_about 119 = .ok (.aload_n 0, 1) := by decide +kernel
theorem d_P_about_120 : decode b_P_about 120 = .ok (.getfield 122, 3) := by decide +kernel
theorem d_P_about_123 : decode b_P_about 123 = .ok (.ifCond .eq (13), 3) := by decide +kernel
theorem d_P_about_126 : decode b_P_about 126 = .ok (.aload_n 0, 1) := by decide +kernel
theorem d_P_about_127 : decode b_P_about 127 = .ok (.getfield 25, 3) := by decide +kernel
theorem d_P_about_130 : decode b_P_about 130 = .ok (.getfield 189, 3) := by decide +kernel
theorem d_P_about_133 : decode b_P_about 133 = .ok (.goto (4), 3) := by decide +kernel
theorem d_P_about_136 : decode b_P_about 136 = .ok (.iconst 0, 1) := by decide +kernel
theorem d_P_about_137 : decode b_P_about 137 = .ok (.ireturn, 1) := by decide +kernel
theorem d_P_about_138 : decode b_P_about 138 = .ok (.iconst (-1), 1) := by decide +kernel
theorem d_P_about_139 : decode b_P_about 139 = .ok (.ireturn, 1) := by decide +kernel
theorem d_P_clear_0 : decode b_P_clear 0 = .ok (.aload_n 0, 1) := by decide +kernel
theorem d_P_clear_1 : decode b_P_clear 1 = .ok (.getfield 18, 3) := by decide +kernel
theorem d_P_clear_4 : decode b_P_clear 4 = .ok (.getfield 73, 3) := by decide +kernel
theorem d_P_clear_7 : decode b_P_clear 7 = .ok (.iconst 0, 1) := by decide +kernel
theorem d_P_clear_8 : decode b_P_clear 8 = .ok (.invokevirtual 119, 3) := by decide +kernel
theorem d_P_clear_11 : decode b_P_clear 11 = .ok (.aload_n 0, 1) := by decide +kernel
theorem d_P_clear_12 : decode b_P_clear 12 = .ok (.iconst 0, 1) := by decide +kernel
theorem d_P_clear_13 : decode b_P_clear 13 = .ok (.putfield 101, 3) := by decide +kernel
theorem d_P_clear_16 : decode b_P_clear 16 = .ok (.aload_n 0, 1) := by decide +kernel
theorem d_P_clear_17 : decode b_P_clear 17 = .ok (.new 9, 3) := by decide +kernel
theorem d_P_clear_20 : decode b_P_clear 20 = .ok (.dup, 1) := by decide +kernel
theorem d_P_clear_21 : decode b_P_clear 21 = .ok (.iconst 0, 1) := by decide +kernel
theorem d_P_clear_22 : decode b_P_clear 22 = .ok (.iconst (-1), 1) := by decide +kernel
theorem d_P_clear_23 : decode b_P_clear 23 = .ok (.iconst 0, 1) := by decide +kernel
theorem d_P_clear_24 : decode b_P_clear 24 = .ok (.aconst_null, 1) := by decide +kernel
theorem d_P_clear_25 : decode b_P_clear 25 = .ok (.iconst 0, 1) := by decide +kernel
theorem d_P_clear_26 : decode b_P_clear 26 = .ok (.invokespecial 29, 3) := by decide +kernel
theorem d_P_clear_29 : decode b_P_clear 29 = .ok (.putfield 32, 3) := by decide +kernel
theorem d_P_clear_32 : decode b_P_clear 32 = .ok (.aload_n 0, 1) := by decide +kernel
theorem d_P_clear_33 : decode b_P_clear 33 = .ok (.aload_n 0, 1) := by decide +kernel
theorem d_P_clear_34 : decode b_P_clear 34 = .ok (.getfield 32, 3) := by decide +kernel
theorem d_P_clear_37 : decode b_P_clear 37 = .ok (.putfield 36, 3) := by decide +kernel
theorem d_P_clear_40 : decode b_P_clear 40 = .ok (.aload_n 0, 1) := by decide +kernel
theorem d_P_clear_41 : decode b_P_clear 41 = .ok (.getfield 11, 3) := by decide +kernel
theorem d_P_clear_44 : decode b_P_clear 44 = .ok (.iconst 0, 1) := by decide +kernel
theorem d_P_clear_45 : decode b_P_clear 45 = .ok (.aload_n 0, 1) := by decide +kernel
theorem d_P_clear_46 : decode b_P_clear 46 = .ok (.getfield 32, 3) := by decide +kernel
theorem d_P_clear_49 : decode b_P_clear 49 = .ok (.aastore, 1) := by decide +kernel
theorem d_P_clear_50 : decode b_P_clear 50 = .ok (.aload_n 0, 1) := by decide +kernel
theorem d_P_clear_51 : decode b_P_clear 51 = .ok (.iconst 1, 1) := by decide +kernel
theorem d_P_clear_52 : decode b_P_clear 52 = .ok (.putfield 39, 3) := by decide +kernel
theorem d_P_clear_55 : decode b_P_clear 55 = .ok (.aload_n 0, 1) := by decide +kernel
theorem d_P_clear_56 : decode b_P_clear 56 = .ok (.iconst 0, 1) := by decide +kernel
theorem d_P_clear_57 : decode b_P_clear 57 = .ok (.putfield 122, 3) := by decide +kernel
theorem d_P_clear_60 : decode b_P_clear 60 = .ok (.return_, 1) := by decide +kernel
theorem d_N_take_0 : decode b_N_take 0 = .ok (.aload_n 0, 1) := by decide +kernel
theorem d_N_take_1 : decode b_N_take 1 = .ok (.getfield 41, 3) := by decide +kernel
theorem d_N_take_4 : decode b_N_take 4 = .ok (.ifnonnull (11), 3) := by decide +kernel
theorem d_N_take_7 : decode b_N_take 7 = .ok (.aload_n 0, 1) := by decide +kernel
theorem d_N_take_8 : decode b_N_take 8 = .ok (.aload_n 1, 1) := by decide +kernel
theorem d_N_take_9 : decode b_N_take 9 = .ok (.putfield 44, 3) := by decide +kernel
theorem d_N_take_12 : decode b_N_take 12 = .ok (.goto (11), 3) := by decide +kernel
theorem d_N_take_15 : decode b_N_take 15 = .ok (.aload_n 0, 1) := by decide +kernel
theorem d_N_take_16 : decode b_N_take 16 = .ok (.getfield 41, 3) := by decide +kernel
theorem d_N_take_19 : decode b_N_take 19 = .ok (.aload_n 1, 1) := by decide +kernel
theorem d_N_take_20 : decode b_N_take 20 = .ok (.putfield 47, 3) := by decide +kernel
theorem d_N_take_23 : decode b_N_take 23 = .ok (.aload_n 0, 1) := by decide +kernel
theorem d_N_take_24 : decode b_N_take 24 = .ok (.aload_n 1, 1) := by decide +kernel
theorem d_N_take_25 : decode b_N_take 25 = .ok (.putfield 41, 3) := by decide +kernel
theorem d_N_take_28 : decode b_N_take 28 = .ok (.return_, 1) := by decide +kernel
theorem d_P_addNode_0 : decode b_P_addNode 0 = .ok (.new 9, 3) := by decide +kernel
theorem d_P_addNode_3 : decode b_P_addNode 3 = .ok (.dup, 1) := by decide +kernel
theorem d_P_addNode_4 : decode b_P_addNode 4 = .ok (.aload_n 0, 1) := by decide +kernel
theorem d_P_addNode_5 : decode b_P_addNode 5 = .ok (.getfield 39, 3) := by decide +kernel
theorem d_P_addNode_8 : decode b_P_addNode 8 = .ok (.iload_n 1, 1) := by decide +kernel
theorem d_P_addNode_9 : decode b_P_addNode 9 = .ok (.iload_n 2, 1) := by decide +kernel
theorem d_P_addNode_10 : decode b_P_addNode 10 = .ok (.aload_n 0, 1) := by decide +kernel
theorem d_P_addNode_11 : decode b_P_addNode 11 = .ok (.getfield 36, 3) := by decide +kernel
theorem d_P_addNode_14 : decode b_P_addNode 14 = .ok (.aload_n 0, 1) := by decide +kernel
theorem d_P_addNode_15 : decode b_P_addNode 15 = .ok (.getfield 18, 3) := by decide +kernel
theorem d_P_addNode_18 : decode b_P_addNode 18 = .ok (.getfield 73, 3) := by decide +kernel
theorem d_P_addNode_21 : decode b_P_addNode 21 = .ok (.invokevirtual 83, 3) := by decide +kernel
theorem d_P_addNode_24 : decode b_P_addNode 24 = .ok (.invokespecial 29, 3) := by decide +kernel
theorem d_P_addNode_27 : decode b_P_addNode 27 = .ok (.astore_n 3, 1) := by decide +kernel
theorem d_P_addNode_28 : decode b_P_addNode 28 = .ok (.aload_n 0, 1) := by decide +kernel
theorem d_P_addNode_29 : decode b_P_addNode 29 = .ok (.getfield 36, 3) := by decide +kernel
theorem d_P_addNode_32 : decode b_P_addNode 32 = .ok (.aload_n 3, 1) := by decide +kernel
theorem d_P_addNode_33 : decode b_P_addNode 33 = .ok (.invokevirtual 195, 3) := by decide +kernel
theorem d_P_addNode_36 : decode b_P_addNode 36 = .ok (.aload_n 0, 1) := by decide +kernel
theorem d_P_addNode_37 : decode b_P_addNode 37 = .ok (.getfield 39, 3) := by decide +kernel
theorem d_P_addNode_40 : decode b_P_addNode 40 = .ok (.aload_n 0, 1) := by decide +kernel
theorem d_P_addNode_41 : decode b_P_addNode 41 = .ok (.getfield 11, 3) := by decide +kernel
theorem d_P_addNode_44 : decode b_P_addNode 44 = .ok (.arraylength, 1) := by decide +kernel
theorem d_P_addNode_45 : decode b_P_addNode 45 = .ok (.if_icmp .ge (23), 3) := by decide +kernel
theorem d_P_addNode_48 : decode b_P_addNode 48 = .ok (.aload_n 0, 1) := by decide +kernel
theorem d_P_addNode_49 : decode b_P_addNode 49 = .ok (.getfield 11, 3) := by decide +kernel
theorem d_P_addNode_52 : decode b_P_addNode 52 = .ok (.aload_n 0, 1) := by decide +kernel
theorem d_P_addNode_53 : decode b_P_addNode 53 = .ok (.getfield 39, 3) := by decide +kernel
theorem d_P_addNode_56 : decode b_P_addNode 56 = .ok (.aload_n 3, 1) := by decide +kernel
theorem d_P_addNode_57 : decode b_P_addNode 57 = .ok (.aastore, 1) := by decide +kernel
theorem d_P_addNode_58 : decode b_P_addNode 58 = .ok (.aload_n 0, 1) := by decide +kernel
theorem d_P_addNode_59 : decode b_P_addNode 59 = .ok (.dup, 1) := by decide +kernel
theorem d_P_addNode_60 : decode b_P_addNode 60 = .ok (.getfield 39, 3) := by decide +kernel
theorem d_P_addNode_63 : decode b_P_addNode 63 = .ok (.iconst 1, 1) := by decide +kernel
theorem d_P_addNode_64 : decode b_P_addNode 64 = .ok (.iadd, 1) := by decide +kernel
theorem d_P_addNode_65 : decode b_P_addNode 65 = .ok (.putfield 39, 3) := by decide +kernel
theorem d_P_addNode_68 : decode b_P_addNode 68 = .ok (.aload_n 3, 1) := by decide +kernel
theorem d_P_addNode_69 : decode b_P_addNode 69 = .ok (.areturn, 1) := by decide +kernel
theorem d_P_begin_0 : decode b_P_begin 0 = .ok (.aload_n 0, 1) := by decide +kernel
theorem d_P_begin_1 : decode b_P_begin 1 = .ok (.invokevirtual 43, 3) := by decide +kernel
theorem d_P_begin_4 : decode b_P_begin 4 = .ok (.ifCond .eq (13), 3) := by decide +kernel
theorem d_P_begin_7 : decode b_P_begin 7 = .ok (.new 47, 3) := by decide +kernel
theorem d_P_begin_10 : decode b_P_begin 10 = .ok (.dup, 1) := by decide +kernel
theorem d_P_begin_11 : decode b_P_begin 11 = .ok (.ldc 49, 2) := by decide +kernel
theorem d_P_begin_13 : decode b_P_begin 13 = .ok (.invokespecial 51, 3) := by decide +kernel
theorem d_P_begin_16 : decode b_P_begin 16 = .ok (.athrow, 1) := by decide +kernel
theorem d_P_begin_17 : decode b_P_begin 17 = .ok (.iload_n 1, 1) := by decide +kernel
