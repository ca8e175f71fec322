theorem d_N_mayHold_108 : decode b_N_mayHold 108 = .ok (.ireturn, 1) := by decide +kernel
theorem d_P_end_0 : decode b_P_end 0 = .ok (.aload_n 0, 1) := by decide +kernel
theorem d_P_end_1 : decode b_P_end 1 = .ok (.getfield 36, 3) := by decide +kernel
theorem d_P_end_4 : decode b_P_end 4 = .ok (.getfield 96, 3) := by decide +kernel
theorem d_P_end_7 : decode b_P_end 7 = .ok (.ifnonnull (5), 3) := by decide +kernel
theorem d_P_end_10 : decode b_P_end 10 = .ok (.iconst (-1), 1) := by decide +kernel
theorem d_P_end_11 : decode b_P_end 11 = .ok (.ireturn, 1) := by decide +kernel
theorem d_P_end_12 : decode b_P_end 12 = .ok (.aload_n 0, 1) := by decide +kernel
theorem d_P_end_13 : decode b_P_end 13 = .ok (.aload_n 0, 1) := by decide +kernel
theorem d_P_end_14 : decode b_P_end 14 = .ok (.getfield 36, 3) := by decide +kernel
theorem d_P_end_17 : decode b_P_end 17 = .ok (.getfield 96, 3) := by decide +kernel
theorem d_P_end_20 : decode b_P_end 20 = .ok (.putfield 36, 3) := by decide +kernel
theorem d_P_end_23 : decode b_P_end 23 = .ok (.aload_n 0, 1) := by decide +kernel
theorem d_P_end_24 : decode b_P_end 24 = .ok (.getfield 36, 3) := by decide +kernel
theorem d_P_end_27 : decode b_P_end 27 = .ok (.getfield 93, 3) := by decide +kernel
theorem d_P_end_30 : decode b_P_end 30 = .ok (.ireturn, 1) := by decide +kernel
theorem d_P_cell_0 : decode b_P_cell 0 = .ok (.aload_n 0, 1) := by decide +kernel
theorem d_P_cell_1 : decode b_P_cell 1 = .ok (.getfield 122, 3) := by decide +kernel
theorem d_P_cell_4 : decode b_P_cell 4 = .ok (.ifCond .eq (16), 3) := by decide +kernel
theorem d_P_cell_7 : decode b_P_cell 7 = .ok (.aload_n 0, 1) := by decide +kernel
theorem d_P_cell_8 : decode b_P_cell 8 = .ok (.getfield 25, 3) := by decide +kernel
theorem d_P_cell_11 : decode b_P_cell 11 = .ok (.iload_n 1, 1) := by decide +kernel
theorem d_P_cell_12 : decode b_P_cell 12 = .ok (.iload_n 2, 1) := by decide +kernel
theorem d_P_cell_13 : decode b_P_cell 13 = .ok (.iload_n 3, 1) := by decide +kernel
theorem d_P_cell_14 : decode b_P_cell 14 = .ok (.invokevirtual 153, 3) := by decide +kernel
theorem d_P_cell_17 : decode b_P_cell 17 = .ok (.goto (4), 3) := by decide +kernel
theorem d_P_cell_20 : decode b_P_cell 20 = .ok (.iconst (-1), 1) := by decide +kernel
theorem d_P_cell_21 : decode b_P_cell 21 = .ok (.ireturn, 1) := by decide +kernel
theorem d_P_page_0 : decode b_P_page 0 = .ok (.aload_n 0, 1) := by decide +kernel
theorem d_P_page_1 : decode b_P_page 1 = .ok (.getfield 122, 3) := by decide +kernel
theorem d_P_page_4 : decode b_P_page 4 = .ok (.ifCond .eq (18), 3) := by decide +kernel
theorem d_P_page_7 : decode b_P_page 7 = .ok (.iload_n 1, 1) := by decide +kernel
theorem d_P_page_8 : decode b_P_page 8 = .ok (.ifCond .lt (14), 3) := by decide +kernel
theorem d_P_page_11 : decode b_P_page 11 = .ok (.iload_n 1, 1) := by decide +kernel
theorem d_P_page_12 : decode b_P_page 12 = .ok (.aload_n 0, 1) := by decide +kernel
theorem d_P_page_13 : decode b_P_page 13 = .ok (.getfield 25, 3) := by decide +kernel
theorem d_P_page_16 : decode b_P_page 16 = .ok (.invokevirtual 150, 3) := by decide +kernel
theorem d_P_page_19 : decode b_P_page 19 = .ok (.if_icmp .lt (5), 3) := by decide +kernel
theorem d_P_page_22 : decode b_P_page 22 = .ok (.iconst (-1), 1) := by decide +kernel
theorem d_P_page_23 : decode b_P_page 23 = .ok (.ireturn, 1) := by decide +kernel
theorem d_P_page_24 : decode b_P_page 24 = .ok (.iload_n 2, 1) := by decide +kernel
theorem d_P_page_25 : decode b_P_page 25 = .ok (.lookupswitch (51) #[(0, 27), (1, 39)], 27) := by decide +kernel
theorem d_P_page_52 : decode b_P_page 52 = .ok (.aload_n 0, 1) := by decide +kernel
theorem d_P_page_53 : decode b_P_page 53 = .ok (.getfield 25, 3) := by decide +kernel
theorem d_P_page_56 : decode b_P_page 56 = .ok (.getfield 157, 3) := by decide +kernel
theorem d_P_page_59 : decode b_P_page 59 = .ok (.iload_n 1, 1) := by decide +kernel
theorem d_P_page_60 : decode b_P_page 60 = .ok (.invokevirtual 160, 3) := by decide +kernel
theorem d_P_page_63 : decode b_P_page 63 = .ok (.ireturn, 1) := by decide +kernel
theorem d_P_page_64 : decode b_P_page 64 = .ok (.aload_n 0, 1) := by decide +kernel
theorem d_P_page_65 : decode b_P_page 65 = .ok (.getfield 25, 3) := by decide +kernel
theorem d_P_page_68 : decode b_P_page 68 = .ok (.getfield 164, 3) := by decide +kernel
theorem d_P_page_71 : decode b_P_page 71 = .ok (.iload_n 1, 1) := by decide +kernel
theorem d_P_page_72 : decode b_P_page 72 = .ok (.invokevirtual 160, 3) := by decide +kernel
theorem d_P_page_75 : decode b_P_page 75 = .ok (.ireturn, 1) := by decide +kernel
theorem d_P_page_76 : decode b_P_page 76 = .ok (.iconst (-1), 1) := by decide +kernel
theorem d_P_page_77 : decode b_P_page 77 = .ok (.ireturn, 1) := by decide +kernel
theorem d_P_line_0 : decode b_P_line 0 = .ok (.aload_n 0, 1) := by decide +kernel
theorem d_P_line_1 : decode b_P_line 1 = .ok (.getfield 122, 3) := by decide +kernel
theorem d_P_line_4 : decode b_P_line 4 = .ok (.ifCond .eq (18), 3) := by decide +kernel
theorem d_P_line_7 : decode b_P_line 7 = .ok (.iload_n 1, 1) := by decide +kernel
theorem d_P_line_8 : decode b_P_line 8 = .ok (.ifCond .lt (14), 3) := by decide +kernel
theorem d_P_line_11 : decode b_P_line 11 = .ok (.iload_n 1, 1) := by decide +kernel
theorem d_P_line_12 : decode b_P_line 12 = .ok (.aload_n 0, 1) := by decide +kernel
theorem d_P_line_13 : decode b_P_line 13 = .ok (.getfield 25, 3) := by decide +kernel
theorem d_P_line_16 : decode b_P_line 16 = .ok (.invokevirtual 167, 3) := by decide +kernel
theorem d_P_line_19 : decode b_P_line 19 = .ok (.if_icmp .lt (5), 3) := by decide +kernel
theorem d_P_line_22 : decode b_P_line 22 = .ok (.iconst (-1), 1) := by decide +kernel
theorem d_P_line_23 : decode b_P_line 23 = .ok (.ireturn, 1) := by decide +kernel
theorem d_P_line_24 : decode b_P_line 24 = .ok (.iload_n 2, 1) := by decide +kernel
theorem d_P_line_25 : decode b_P_line 25 = .ok (.tableswitch (71) (0) (2) #[27, 39, 51], 27) := by decide +kernel
theorem d_P_line_52 : decode b_P_line 52 = .ok (.aload_n 0, 1) := by decide +kernel
theorem d_P_line_53 : decode b_P_line 53 = .ok (.getfield 25, 3) := by decide +kernel
theorem d_P_line_56 : decode b_P_line 56 = .ok (.getfield 170, 3) := by decide +kernel
theorem d_P_line_59 : decode b_P_line 59 = .ok (.iload_n 1, 1) := by decide +kernel
theorem d_P_line_60 : decode b_P_line 60 = .ok (.invokevirtual 160, 3) := by decide +kernel
theorem d_P_line_63 : decode b_P_line 63 = .ok (.ireturn, 1) := by decide +kernel
theorem d_P_line_64 : decode b_P_line 64 = .ok (.aload_n 0, 1) := by decide +kernel
theorem d_P_line_65 : decode b_P_line 65 = .ok (.getfield 25, 3) := by decide +kernel
theorem d_P_line_68 : decode b_P_line 68 = .ok (.getfield 173, 3) := by decide +kernel
theorem d_P_line_71 : decode b_P_line 71 = .ok (.iload_n 1, 1) := by decide +kernel
theorem d_P_line_72 : decode b_P_line 72 = .ok (.invokevirtual 160, 3) := by decide +kernel
theorem d_P_line_75 : decode b_P_line 75 = .ok (.ireturn, 1) := by decide +kernel
theorem d_P_line_76 : decode b_P_line 76 = .ok (.aload_n 0, 1) := by decide +kernel
theorem d_P_line_77 : decode b_P_line 77 = .ok (.getfield 25, 3) := by decide +kernel
theorem d_P_line_80 : decode b_P_line 80 = .ok (.getfield 176, 3) := by decide +kernel
theorem d_P_line_83 : decode b_P_line 83 = .ok (.iload_n 1, 1) := by decide +kernel
theorem d_P_line_84 : decode b_P_line 84 = .ok (.invokevirtual 160, 3) := by decide +kernel
theorem d_P_line_87 : decode b_P_line 87 = .ok (.ifCond .le (7), 3) := by decide +kernel
theorem d_P_line_90 : decode b_P_line 90 = .ok (.iconst 1, 1) := by decide +kernel
theorem d_P_line_91 : decode b_P_line 91 = .ok (.goto (4), 3) := by decide +kernel
theorem d_P_line_94 : decode b_P_line 94 = .ok (.iconst 0, 1) := by decide +kernel
theorem d_P_line_95 : decode b_P_line 95 = .ok (.ireturn, 1) := by decide +kernel
theorem d_P_line_96 : decode b_P_line 96 = .ok (.iconst (-1), 1) := by decide +kernel
theorem d_P_line_97 : decode b_P_line 97 = .ok (.ireturn, 1) := by decide +kernel
theorem d_P_nodeAt_0 : decode b_P_nodeAt 0 = .ok (.iload_n 1, 1) := by decide +kernel
theorem d_P_nodeAt_1 : decode b_P_nodeAt 1 = .ok (.ifCond .lt (29), 3) := by decide +kernel
theorem d_P_nodeAt_4 : decode b_P_nodeAt 4 = .ok (.iload_n 1, 1) := by decide +kernel
theorem d_P_nodeAt_5 : decode b_P_nodeAt 5 = .ok (.aload_n 0, 1) := by decide +kernel
theorem d_P_nodeAt_6 : decode b_P_nodeAt 6 = .ok (.getfield 39, 3) := by decide +kernel
theorem d_P_nodeAt_9 : decode b_P_nodeAt 9 = .ok (.if_icmp .ge (21), 3) := by decide +kernel
theorem d_P_nodeAt_12 : decode b_P_nodeAt 12 = .ok (.iload_n 1, 1) := by decide +kernel
theorem d_P_nodeAt_13 : decode b_P_nodeAt 13 = .ok (.aload_n 0, 1) := by decide +kernel
theorem d_P_nodeAt_14 : decode b_P_nodeAt 14 = .ok (.getfield 11, 3) := by decide +kernel
theorem d_P_nodeAt_17 : decode b_P_nodeAt 17 = .ok (.arraylength, 1) := by decide +kernel
theorem d_P_nodeAt_18 : decode b_P_nodeAt 18 = .ok (.if_icmp .ge (12), 3) := by decide +kernel
theorem d_P_nodeAt_21 : decode b_P_nodeAt 21 = .ok (.aload_n 0, 1) := by decide +kernel
theorem d_P_nodeAt_22 : decode b_P_nodeAt 22 = .ok (.getfield 11, 3) := by decide +kernel
theorem d_P_nodeAt_25 : decode b_P_nodeAt 25 = .ok (.iload_n 1, 1) := by decide +kernel
theorem d_P_nodeAt_26 : decode b_P_nodeAt 26 = .ok (.aaload, 1) := by decide +kernel
theorem d_P_nodeAt_27 : decode b_P_nodeAt 27 = .ok (.goto (4), 3) := by decide +kernel
theorem d_P_nodeAt_30 : decode b_P_nodeAt 30 = .ok (.aconst_null, 1) := by decide +kernel
theorem d_P_nodeAt_31 : decode b_P_nodeAt 31 = .ok (.areturn, 1) := by decide +kernel
theorem d_P_find_0 : decode b_P_find 0 = .ok (.aload_n 0, 1) := by decide +kernel
theorem d_P_find_1 : decode b_P_find 1 = .ok (.iload_n 1, 1) := by decide +kernel
theorem d_P_find_2 : decode b_P_find 2 = .ok (.invokevirtual 179, 3) := by decide +kernel
theorem d_P_find_5 : decode b_P_find 5 = .ok (.astore_n 2, 1) := by decide +kernel
theorem d_P_find_6 : decode b_P_find 6 = .ok (.aload_n 2, 1) := by decide +kernel
theorem d_P_find_7 : decode b_P_find 7 = .ok (.ifnull (10), 3) := by decide +kernel
theorem d_P_find_10 : decode b_P_find 10 = .ok (.aload_n 0, 1) := by decide +kernel
theorem d_P_find_11 : decode b_P_find 11 = .ok (.getfield 122, 3) := by decide +kernel
theorem d_P_find_14 : decode b_P_find 14 = .ok (.ifCond .ne (7), 3) := by decide +kernel
theorem d_P_find_17 : decode b_P_find 17 = .ok (.iconst (-1), 1) := by decide +kernel
theorem d_P_find_18 : decode b_P_find 18 = .ok (.goto (7), 3) := by decide +kernel
theorem d_P_find_21 : decode b_P_find 21 = .ok (.aload_n 2, 1) := by decide +kernel
theorem d_P_find_22 : decode b_P_find 22 = .ok (.getfield 183, 3) := by decide +kernel
theorem d_P_find_25 : decode b_P_find 25 = .ok (.ireturn, 1) := by decide +kernel
theorem d_P_node_0 : decode b_P_node 0 = .ok (.aload_n 0, 1) := by decide +kernel
theorem d_P_node_1 : decode b_P_node 1 = .ok (.iload_n 1, 1) := by decide +kernel
theorem d_P_node_2 : decode b_P_node 2 = .ok (.invokevirtual 179, 3) := by decide +kernel
theorem d_P_node_5 : decode b_P_node 5 = .ok (.astore_n 3, 1) := by decide +kernel
theorem d_P_node_6 : decode b_P_node 6 = .ok (.aload_n 3, 1) := by decide +kernel
theorem d_P_node_7 : decode b_P_node 7 = .ok (.ifnonnull (5), 3) := by decide +kernel
theorem d_P_node_10 : decode b_P_node 10 = .ok (.iconst (-1), 1) := by decide +kernel
theorem d_P_node_11 : decode b_P_node 11 = .ok (.ireturn, 1) := by decide +kernel
theorem d_P_node_12 : decode b_P_node 12 = .ok (.iload_n 2, 1) := by decide +kernel
theorem d_P_node_13 : decode b_P_node 13 = .ok (.tableswitch (56) (0) (2) #[27, 32, 51], 27) := by decide +kernel
theorem d_P_node_40 : decode b_P_node 40 = .ok (.aload_n 3, 1) := by decide +kernel
theorem d_P_node_41 : decode b_P_node 41 = .ok (.getfield 109, 3) := by decide +kernel
theorem d_P_node_44 : decode b_P_node 44 = .ok (.ireturn, 1) := by decide +kernel
theorem d_P_node_45 : decode b_P_node 45 = .ok (.aload_n 3, 1) := by decide +kernel
theorem d_P_node_46 : decode b_P_node 46 = .ok (.getfield 96, 3) := by decide +kernel
theorem d_P_node_49 : decode b_P_node 49 = .ok (.ifnonnull (7), 3) := by decide +kernel
theorem d_P_node_52 : decode b_P_node 52 = .ok (.iconst (-1), 1) := by decide +kernel
theorem d_P_node_53 : decode b_P_node 53 = .ok (.goto (10), 3) := by decide +kernel
theorem d_P_node_56 : decode b_P_node 56 = .ok (.aload_n 3, 1) := by decide +kernel
theorem d_P_node_57 : decode b_P_node 57 = .ok (.getfield 96, 3) := by decide +kernel
theorem d_P_node_60 : decode b_P_node 60 = .ok (.getfield 93, 3) := by decide +kernel
theorem d_P_node_63 : decode b_P_node 63 = .ok (.ireturn, 1) := by decide +kernel
theorem d_P_node_64 : decode b_P_node 64 = .ok (.aload_n 3, 1) := by decide +kernel
theorem d_P_node_65 : decode b_P_node 65 = .ok (.getfield 116, 3) := by decide +kernel
