theorem d_M_cell_100 : decode b_M_cell 100 = .ok (.iload 4, 2) := by decide +kernel
theorem d_M_cell_102 : decode b_M_cell 102 = .ok (.istore 4, 2) := by decide +kernel
theorem d_M_cell_104 : decode b_M_cell 104 = .ok (.iinc 5 (1), 3) := by decide +kernel
theorem d_M_cell_107 : decode b_M_cell 107 = .ok (.goto (-57), 3) := by decide +kernel
theorem d_M_cell_110 : decode b_M_cell 110 = .ok (.iload 4, 2) := by decide +kernel
theorem d_M_cell_112 : decode b_M_cell 112 = .ok (.ireturn, 1) := by decide +kernel
theorem d_M_page_0 : decode b_M_page 0 = .ok (.aload_n 0, 1) := by decide +kernel
theorem d_M_page_1 : decode b_M_page 1 = .ok (.iconst 0, 1) := by decide +kernel
theorem d_M_page_2 : decode b_M_page 2 = .ok (.putfield 97, 3) := by decide +kernel
theorem d_M_page_5 : decode b_M_page 5 = .ok (.iload_n 1, 1) := by decide +kernel
theorem d_M_page_6 : decode b_M_page 6 = .ok (.ifCond .lt (20), 3) := by decide +kernel
theorem d_M_page_9 : decode b_M_page 9 = .ok (.iload_n 1, 1) := by decide +kernel
theorem d_M_page_10 : decode b_M_page 10 = .ok (.aload_n 0, 1) := by decide +kernel
theorem d_M_page_11 : decode b_M_page 11 = .ok (.getfield 110, 3) := by decide +kernel
theorem d_M_page_14 : decode b_M_page 14 = .ok (.if_icmp .ge (12), 3) := by decide +kernel
theorem d_M_page_17 : decode b_M_page 17 = .ok (.iload_n 2, 1) := by decide +kernel
theorem d_M_page_18 : decode b_M_page 18 = .ok (.ifCond .lt (8), 3) := by decide +kernel
theorem d_M_page_21 : decode b_M_page 21 = .ok (.iload_n 2, 1) := by decide +kernel
theorem d_M_page_22 : decode b_M_page 22 = .ok (.iconst 1, 1) := by decide +kernel
theorem d_M_page_23 : decode b_M_page 23 = .ok (.if_icmp .le (5), 3) := by decide +kernel
theorem d_M_page_26 : decode b_M_page 26 = .ok (.iconst (-1), 1) := by decide +kernel
theorem d_M_page_27 : decode b_M_page 27 = .ok (.ireturn, 1) := by decide +kernel
theorem d_M_page_28 : decode b_M_page 28 = .ok (.iconst 0, 1) := by decide +kernel
theorem d_M_page_29 : decode b_M_page 29 = .ok (.istore_n 3, 1) := by decide +kernel
theorem d_M_page_30 : decode b_M_page 30 = .ok (.aload_n 0, 1) := by decide +kernel
theorem d_M_page_31 : decode b_M_page 31 = .ok (.getfield 113, 3) := by decide +kernel
theorem d_M_page_34 : decode b_M_page 34 = .ok (.istore 4, 2) := by decide +kernel
theorem d_M_page_36 : decode b_M_page 36 = .ok (.aload_n 0, 1) := by decide +kernel
theorem d_M_page_37 : decode b_M_page 37 = .ok (.getfield 113, 3) := by decide +kernel
theorem d_M_page_40 : decode b_M_page 40 = .ok (.iconst 1, 1) := by decide +kernel
theorem d_M_page_41 : decode b_M_page 41 = .ok (.isub, 1) := by decide +kernel
theorem d_M_page_42 : decode b_M_page 42 = .ok (.istore 5, 2) := by decide +kernel
theorem d_M_page_44 : decode b_M_page 44 = .ok (.iload 5, 2) := by decide +kernel
theorem d_M_page_46 : decode b_M_page 46 = .ok (.ifCond .lt (30), 3) := by decide +kernel
theorem d_M_page_49 : decode b_M_page 49 = .ok (.aload_n 0, 1) := by decide +kernel
theorem d_M_page_50 : decode b_M_page 50 = .ok (.getfield 41, 3) := by decide +kernel
theorem d_M_page_53 : decode b_M_page 53 = .ok (.iload 5, 2) := by decide +kernel
theorem d_M_page_55 : decode b_M_page 55 = .ok (.iaload, 1) := by decide +kernel
theorem d_M_page_56 : decode b_M_page 56 = .ok (.iload_n 1, 1) := by decide +kernel
theorem d_M_page_57 : decode b_M_page 57 = .ok (.if_icmp .eq (6), 3) := by decide +kernel
theorem d_M_page_60 : decode b_M_page 60 = .ok (.goto (10), 3) := by decide +kernel
theorem d_M_page_63 : decode b_M_page 63 = .ok (.iinc 3 (1), 3) := by decide +kernel
theorem d_M_page_66 : decode b_M_page 66 = .ok (.iload 5, 2) := by decide +kernel
theorem d_M_page_68 : decode b_M_page 68 = .ok (.istore 4, 2) := by decide +kernel
theorem d_M_page_70 : decode b_M_page 70 = .ok (.iinc 5 (-1), 3) := by decide +kernel
theorem d_M_page_73 : decode b_M_page 73 = .ok (.goto (-29), 3) := by decide +kernel
theorem d_M_page_76 : decode b_M_page 76 = .ok (.iload_n 2, 1) := by decide +kernel
theorem d_M_page_77 : decode b_M_page 77 = .ok (.ifCond .ne (7), 3) := by decide +kernel
theorem d_M_page_80 : decode b_M_page 80 = .ok (.iload_n 3, 1) := by decide +kernel
theorem d_M_page_81 : decode b_M_page 81 = .ok (.goto (5), 3) := by decide +kernel
theorem d_M_page_84 : decode b_M_page 84 = .ok (.iload 4, 2) := by decide +kernel
theorem d_M_page_86 : decode b_M_page 86 = .ok (.ireturn, 1) := by decide +kernel
theorem d_M_line_0 : decode b_M_line 0 = .ok (.aload_n 0, 1) := by decide +kernel
theorem d_M_line_1 : decode b_M_line 1 = .ok (.iconst 0, 1) := by decide +kernel
theorem d_M_line_2 : decode b_M_line 2 = .ok (.putfield 97, 3) := by decide +kernel
theorem d_M_line_5 : decode b_M_line 5 = .ok (.iload_n 1, 1) := by decide +kernel
theorem d_M_line_6 : decode b_M_line 6 = .ok (.ifCond .lt (11), 3) := by decide +kernel
theorem d_M_line_9 : decode b_M_line 9 = .ok (.iload_n 1, 1) := by decide +kernel
theorem d_M_line_10 : decode b_M_line 10 = .ok (.aload_n 0, 1) := by decide +kernel
theorem d_M_line_11 : decode b_M_line 11 = .ok (.getfield 113, 3) := by decide +kernel
theorem d_M_line_14 : decode b_M_line 14 = .ok (.if_icmp .lt (5), 3) := by decide +kernel
theorem d_M_line_17 : decode b_M_line 17 = .ok (.iconst (-1), 1) := by decide +kernel
theorem d_M_line_18 : decode b_M_line 18 = .ok (.ireturn, 1) := by decide +kernel
theorem d_M_line_19 : decode b_M_line 19 = .ok (.iload_n 2, 1) := by decide +kernel
theorem d_M_line_20 : decode b_M_line 20 = .ok (.ifCond .ne (12), 3) := by decide +kernel
theorem d_M_line_23 : decode b_M_line 23 = .ok (.aload_n 0, 1) := by decide +kernel
theorem d_M_line_24 : decode b_M_line 24 = .ok (.getfield 35, 3) := by decide +kernel
theorem d_M_line_27 : decode b_M_line 27 = .ok (.iload_n 1, 1) := by decide +kernel
theorem d_M_line_28 : decode b_M_line 28 = .ok (.iaload, 1) := by decide +kernel
theorem d_M_line_29 : decode b_M_line 29 = .ok (.goto (40), 3) := by decide +kernel
theorem d_M_line_32 : decode b_M_line 32 = .ok (.iload_n 2, 1) := by decide +kernel
theorem d_M_line_33 : decode b_M_line 33 = .ok (.iconst 1, 1) := by decide +kernel
theorem d_M_line_34 : decode b_M_line 34 = .ok (.if_icmp .ne (12), 3) := by decide +kernel
theorem d_M_line_37 : decode b_M_line 37 = .ok (.aload_n 0, 1) := by decide +kernel
theorem d_M_line_38 : decode b_M_line 38 = .ok (.getfield 41, 3) := by decide +kernel
theorem d_M_line_41 : decode b_M_line 41 = .ok (.iload_n 1, 1) := by decide +kernel
theorem d_M_line_42 : decode b_M_line 42 = .ok (.iaload, 1) := by decide +kernel
theorem d_M_line_43 : decode b_M_line 43 = .ok (.goto (26), 3) := by decide +kernel
theorem d_M_line_46 : decode b_M_line 46 = .ok (.iload_n 2, 1) := by decide +kernel
theorem d_M_line_47 : decode b_M_line 47 = .ok (.iconst 2, 1) := by decide +kernel
theorem d_M_line_48 : decode b_M_line 48 = .ok (.if_icmp .ne (20), 3) := by decide +kernel
theorem d_M_line_51 : decode b_M_line 51 = .ok (.aload_n 0, 1) := by decide +kernel
theorem d_M_line_52 : decode b_M_line 52 = .ok (.getfield 38, 3) := by decide +kernel
theorem d_M_line_55 : decode b_M_line 55 = .ok (.iload_n 1, 1) := by decide +kernel
theorem d_M_line_56 : decode b_M_line 56 = .ok (.iaload, 1) := by decide +kernel
theorem d_M_line_57 : decode b_M_line 57 = .ok (.ifCond .le (7), 3) := by decide +kernel
theorem d_M_line_60 : decode b_M_line 60 = .ok (.iconst 1, 1) := by decide +kernel
theorem d_M_line_61 : decode b_M_line 61 = .ok (.goto (8), 3) := by decide +kernel
theorem d_M_line_64 : decode b_M_line 64 = .ok (.iconst 0, 1) := by decide +kernel
theorem d_M_line_65 : decode b_M_line 65 = .ok (.goto (4), 3) := by decide +kernel
theorem d_M_line_68 : decode b_M_line 68 = .ok (.iconst (-1), 1) := by decide +kernel
theorem d_M_line_69 : decode b_M_line 69 = .ok (.ireturn, 1) := by decide +kernel
theorem d_M_find_0 : decode b_M_find 0 = .ok (.aload_n 0, 1) := by decide +kernel
theorem d_M_find_1 : decode b_M_find 1 = .ok (.iconst 0, 1) := by decide +kernel
theorem d_M_find_2 : decode b_M_find 2 = .ok (.putfield 97, 3) := by decide +kernel
theorem d_M_find_5 : decode b_M_find 5 = .ok (.iload_n 1, 1) := by decide +kernel
theorem d_M_find_6 : decode b_M_find 6 = .ok (.ifCond .lt (20), 3) := by decide +kernel
theorem d_M_find_9 : decode b_M_find 9 = .ok (.iload_n 1, 1) := by decide +kernel
theorem d_M_find_10 : decode b_M_find 10 = .ok (.aload_n 0, 1) := by decide +kernel
theorem d_M_find_11 : decode b_M_find 11 = .ok (.getfield 122, 3) := by decide +kernel
theorem d_M_find_14 : decode b_M_find 14 = .ok (.if_icmp .ge (12), 3) := by decide +kernel
theorem d_M_find_17 : decode b_M_find 17 = .ok (.aload_n 0, 1) := by decide +kernel
theorem d_M_find_18 : decode b_M_find 18 = .ok (.getfield 55, 3) := by decide +kernel
theorem d_M_find_21 : decode b_M_find 21 = .ok (.iload_n 1, 1) := by decide +kernel
theorem d_M_find_22 : decode b_M_find 22 = .ok (.iaload, 1) := by decide +kernel
theorem d_M_find_23 : decode b_M_find 23 = .ok (.goto (4), 3) := by decide +kernel
theorem d_M_find_26 : decode b_M_find 26 = .ok (.iconst (-1), 1) := by decide +kernel
theorem d_M_find_27 : decode b_M_find 27 = .ok (.ireturn, 1) := by decide +kernel
theorem d_M_node_0 : decode b_M_node 0 = .ok (.aload_n 0, 1) := by decide +kernel
theorem d_M_node_1 : decode b_M_node 1 = .ok (.iconst 0, 1) := by decide +kernel
theorem d_M_node_2 : decode b_M_node 2 = .ok (.putfield 97, 3) := by decide +kernel
theorem d_M_node_5 : decode b_M_node 5 = .ok (.iload_n 1, 1) := by decide +kernel
theorem d_M_node_6 : decode b_M_node 6 = .ok (.ifCond .lt (11), 3) := by decide +kernel
theorem d_M_node_9 : decode b_M_node 9 = .ok (.iload_n 1, 1) := by decide +kernel
theorem d_M_node_10 : decode b_M_node 10 = .ok (.aload_n 0, 1) := by decide +kernel
theorem d_M_node_11 : decode b_M_node 11 = .ok (.getfield 101, 3) := by decide +kernel
theorem d_M_node_14 : decode b_M_node 14 = .ok (.if_icmp .lt (5), 3) := by decide +kernel
theorem d_M_node_17 : decode b_M_node 17 = .ok (.iconst (-1), 1) := by decide +kernel
theorem d_M_node_18 : decode b_M_node 18 = .ok (.ireturn, 1) := by decide +kernel
theorem d_M_node_19 : decode b_M_node 19 = .ok (.iload_n 2, 1) := by decide +kernel
theorem d_M_node_20 : decode b_M_node 20 = .ok (.tableswitch (84) (0) (2) #[28, 50, 57], 28) := by decide +kernel
theorem d_M_node_48 : decode b_M_node 48 = .ok (.aload_n 0, 1) := by decide +kernel
theorem d_M_node_49 : decode b_M_node 49 = .ok (.getfield 7, 3) := by decide +kernel
theorem d_M_node_52 : decode b_M_node 52 = .ok (.iload_n 1, 1) := by decide +kernel
theorem d_M_node_53 : decode b_M_node 53 = .ok (.iaload, 1) := by decide +kernel
theorem d_M_node_54 : decode b_M_node 54 = .ok (.bipush (11), 2) := by decide +kernel
theorem d_M_node_56 : decode b_M_node 56 = .ok (.if_icmp .ne (7), 3) := by decide +kernel
theorem d_M_node_59 : decode b_M_node 59 = .ok (.iconst (-1), 1) := by decide +kernel
theorem d_M_node_60 : decode b_M_node 60 = .ok (.goto (9), 3) := by decide +kernel
theorem d_M_node_63 : decode b_M_node 63 = .ok (.aload_n 0, 1) := by decide +kernel
theorem d_M_node_64 : decode b_M_node 64 = .ok (.getfield 7, 3) := by decide +kernel
theorem d_M_node_67 : decode b_M_node 67 = .ok (.iload_n 1, 1) := by decide +kernel
theorem d_M_node_68 : decode b_M_node 68 = .ok (.iaload, 1) := by decide +kernel
theorem d_M_node_69 : decode b_M_node 69 = .ok (.ireturn, 1) := by decide +kernel
theorem d_M_node_70 : decode b_M_node 70 = .ok (.aload_n 0, 1) := by decide +kernel
theorem d_M_node_71 : decode b_M_node 71 = .ok (.getfield 13, 3) := by decide +kernel
theorem d_M_node_74 : decode b_M_node 74 = .ok (.iload_n 1, 1) := by decide +kernel
theorem d_M_node_75 : decode b_M_node 75 = .ok (.iaload, 1) := by decide +kernel
theorem d_M_node_76 : decode b_M_node 76 = .ok (.ireturn, 1) := by decide +kernel
theorem d_M_node_77 : decode b_M_node 77 = .ok (.aload_n 0, 1) := by decide +kernel
theorem d_M_node_78 : decode b_M_node 78 = .ok (.getfield 7, 3) := by decide +kernel
theorem d_M_node_81 : decode b_M_node 81 = .ok (.iload_n 1, 1) := by decide +kernel
theorem d_M_node_82 : decode b_M_node 82 = .ok (.iaload, 1) := by decide +kernel
theorem d_M_node_83 : decode b_M_node 83 = .ok (.bipush (10), 2) := by decide +kernel
theorem d_M_node_85 : decode b_M_node 85 = .ok (.if_icmp .ne (12), 3) := by decide +kernel
theorem d_M_node_88 : decode b_M_node 88 = .ok (.aload_n 0, 1) := by decide +kernel
theorem d_M_node_89 : decode b_M_node 89 = .ok (.getfield 25, 3) := by decide +kernel
theorem d_M_node_92 : decode b_M_node 92 = .ok (.iload_n 1, 1) := by decide +kernel
theorem d_M_node_93 : decode b_M_node 93 = .ok (.iaload, 1) := by decide +kernel
theorem d_M_node_94 : decode b_M_node 94 = .ok (.goto (9), 3) := by decide +kernel
