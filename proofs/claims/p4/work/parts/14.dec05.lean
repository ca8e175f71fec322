theorem d_M_beginLeaf_5 : decode b_M_beginLeaf 5 = .ok (.getfield 166, 3) := by decide +kernel
theorem d_M_beginLeaf_8 : decode b_M_beginLeaf 8 = .ok (.iconst 1, 1) := by decide +kernel
theorem d_M_beginLeaf_9 : decode b_M_beginLeaf 9 = .ok (.isub, 1) := by decide +kernel
theorem d_M_beginLeaf_10 : decode b_M_beginLeaf 10 = .ok (.iconst 1, 1) := by decide +kernel
theorem d_M_beginLeaf_11 : decode b_M_beginLeaf 11 = .ok (.bastore, 1) := by decide +kernel
theorem d_M_beginLeaf_12 : decode b_M_beginLeaf 12 = .ok (.aload_n 0, 1) := by decide +kernel
theorem d_M_beginLeaf_13 : decode b_M_beginLeaf 13 = .ok (.iconst 1, 1) := by decide +kernel
theorem d_M_beginLeaf_14 : decode b_M_beginLeaf 14 = .ok (.putfield 198, 3) := by decide +kernel
theorem d_M_beginLeaf_17 : decode b_M_beginLeaf 17 = .ok (.aload_n 0, 1) := by decide +kernel
theorem d_M_beginLeaf_18 : decode b_M_beginLeaf 18 = .ok (.iconst (-1), 1) := by decide +kernel
theorem d_M_beginLeaf_19 : decode b_M_beginLeaf 19 = .ok (.putfield 176, 3) := by decide +kernel
theorem d_M_beginLeaf_22 : decode b_M_beginLeaf 22 = .ok (.aload_n 0, 1) := by decide +kernel
theorem d_M_beginLeaf_23 : decode b_M_beginLeaf 23 = .ok (.aload_n 0, 1) := by decide +kernel
theorem d_M_beginLeaf_24 : decode b_M_beginLeaf 24 = .ok (.getfield 64, 3) := by decide +kernel
theorem d_M_beginLeaf_27 : decode b_M_beginLeaf 27 = .ok (.aload_n 0, 1) := by decide +kernel
theorem d_M_beginLeaf_28 : decode b_M_beginLeaf 28 = .ok (.getfield 166, 3) := by decide +kernel
theorem d_M_beginLeaf_31 : decode b_M_beginLeaf 31 = .ok (.iconst 1, 1) := by decide +kernel
theorem d_M_beginLeaf_32 : decode b_M_beginLeaf 32 = .ok (.isub, 1) := by decide +kernel
theorem d_M_beginLeaf_33 : decode b_M_beginLeaf 33 = .ok (.iaload, 1) := by decide +kernel
theorem d_M_beginLeaf_34 : decode b_M_beginLeaf 34 = .ok (.putfield 189, 3) := by decide +kernel
theorem d_M_beginLeaf_37 : decode b_M_beginLeaf 37 = .ok (.aload_n 0, 1) := by decide +kernel
theorem d_M_beginLeaf_38 : decode b_M_beginLeaf 38 = .ok (.iconst 0, 1) := by decide +kernel
theorem d_M_beginLeaf_39 : decode b_M_beginLeaf 39 = .ok (.putfield 186, 3) := by decide +kernel
theorem d_M_beginLeaf_42 : decode b_M_beginLeaf 42 = .ok (.aload_n 0, 1) := by decide +kernel
theorem d_M_beginLeaf_43 : decode b_M_beginLeaf 43 = .ok (.iconst 0, 1) := by decide +kernel
theorem d_M_beginLeaf_44 : decode b_M_beginLeaf 44 = .ok (.putfield 179, 3) := by decide +kernel
theorem d_M_beginLeaf_47 : decode b_M_beginLeaf 47 = .ok (.return_, 1) := by decide +kernel
theorem d_M_endLeaf_0 : decode b_M_endLeaf 0 = .ok (.aload_n 0, 1) := by decide +kernel
theorem d_M_endLeaf_1 : decode b_M_endLeaf 1 = .ok (.invokevirtual 195, 3) := by decide +kernel
theorem d_M_endLeaf_4 : decode b_M_endLeaf 4 = .ok (.aload_n 0, 1) := by decide +kernel
theorem d_M_endLeaf_5 : decode b_M_endLeaf 5 = .ok (.getfield 179, 3) := by decide +kernel
theorem d_M_endLeaf_8 : decode b_M_endLeaf 8 = .ok (.ifCond .le (7), 3) := by decide +kernel
theorem d_M_endLeaf_11 : decode b_M_endLeaf 11 = .ok (.aload_n 0, 1) := by decide +kernel
theorem d_M_endLeaf_12 : decode b_M_endLeaf 12 = .ok (.invokevirtual 192, 3) := by decide +kernel
theorem d_M_endLeaf_15 : decode b_M_endLeaf 15 = .ok (.aload_n 0, 1) := by decide +kernel
theorem d_M_endLeaf_16 : decode b_M_endLeaf 16 = .ok (.iconst 0, 1) := by decide +kernel
theorem d_M_endLeaf_17 : decode b_M_endLeaf 17 = .ok (.putfield 198, 3) := by decide +kernel
theorem d_M_endLeaf_20 : decode b_M_endLeaf 20 = .ok (.return_, 1) := by decide +kernel
theorem d_M_hold_0 : decode b_M_hold 0 = .ok (.aload_n 0, 1) := by decide +kernel
theorem d_M_hold_1 : decode b_M_hold 1 = .ok (.getfield 166, 3) := by decide +kernel
theorem d_M_hold_4 : decode b_M_hold 4 = .ok (.ifCond .le (15), 3) := by decide +kernel
theorem d_M_hold_7 : decode b_M_hold 7 = .ok (.aload_n 0, 1) := by decide +kernel
theorem d_M_hold_8 : decode b_M_hold 8 = .ok (.getfield 82, 3) := by decide +kernel
theorem d_M_hold_11 : decode b_M_hold 11 = .ok (.aload_n 0, 1) := by decide +kernel
theorem d_M_hold_12 : decode b_M_hold 12 = .ok (.getfield 166, 3) := by decide +kernel
theorem d_M_hold_15 : decode b_M_hold 15 = .ok (.iconst 1, 1) := by decide +kernel
theorem d_M_hold_16 : decode b_M_hold 16 = .ok (.isub, 1) := by decide +kernel
theorem d_M_hold_17 : decode b_M_hold 17 = .ok (.iconst 1, 1) := by decide +kernel
theorem d_M_hold_18 : decode b_M_hold 18 = .ok (.bastore, 1) := by decide +kernel
theorem d_M_hold_19 : decode b_M_hold 19 = .ok (.aload_n 0, 1) := by decide +kernel
theorem d_M_hold_20 : decode b_M_hold 20 = .ok (.getfield 166, 3) := by decide +kernel
theorem d_M_hold_23 : decode b_M_hold 23 = .ok (.istore 5, 2) := by decide +kernel
theorem d_M_hold_25 : decode b_M_hold 25 = .ok (.aload_n 0, 1) := by decide +kernel
theorem d_M_hold_26 : decode b_M_hold 26 = .ok (.getfield 61, 3) := by decide +kernel
theorem d_M_hold_29 : decode b_M_hold 29 = .ok (.iload 5, 2) := by decide +kernel
theorem d_M_hold_31 : decode b_M_hold 31 = .ok (.iload_n 1, 1) := by decide +kernel
theorem d_M_hold_32 : decode b_M_hold 32 = .ok (.iastore, 1) := by decide +kernel
theorem d_M_hold_33 : decode b_M_hold 33 = .ok (.aload_n 0, 1) := by decide +kernel
theorem d_M_hold_34 : decode b_M_hold 34 = .ok (.getfield 64, 3) := by decide +kernel
theorem d_M_hold_37 : decode b_M_hold 37 = .ok (.iload 5, 2) := by decide +kernel
theorem d_M_hold_39 : decode b_M_hold 39 = .ok (.iload_n 2, 1) := by decide +kernel
theorem d_M_hold_40 : decode b_M_hold 40 = .ok (.iconst 4, 1) := by decide +kernel
theorem d_M_hold_41 : decode b_M_hold 41 = .ok (.if_icmp .ge (7), 3) := by decide +kernel
theorem d_M_hold_44 : decode b_M_hold 44 = .ok (.iconst 4, 1) := by decide +kernel
theorem d_M_hold_45 : decode b_M_hold 45 = .ok (.goto (4), 3) := by decide +kernel
theorem d_M_hold_48 : decode b_M_hold 48 = .ok (.iload_n 2, 1) := by decide +kernel
theorem d_M_hold_49 : decode b_M_hold 49 = .ok (.iastore, 1) := by decide +kernel
theorem d_M_hold_50 : decode b_M_hold 50 = .ok (.aload_n 0, 1) := by decide +kernel
theorem d_M_hold_51 : decode b_M_hold 51 = .ok (.getfield 67, 3) := by decide +kernel
theorem d_M_hold_54 : decode b_M_hold 54 = .ok (.iload 5, 2) := by decide +kernel
theorem d_M_hold_56 : decode b_M_hold 56 = .ok (.iload_n 3, 1) := by decide +kernel
theorem d_M_hold_57 : decode b_M_hold 57 = .ok (.iastore, 1) := by decide +kernel
theorem d_M_hold_58 : decode b_M_hold 58 = .ok (.aload_n 0, 1) := by decide +kernel
theorem d_M_hold_59 : decode b_M_hold 59 = .ok (.getfield 70, 3) := by decide +kernel
theorem d_M_hold_62 : decode b_M_hold 62 = .ok (.iload 5, 2) := by decide +kernel
theorem d_M_hold_64 : decode b_M_hold 64 = .ok (.iload_n 3, 1) := by decide +kernel
theorem d_M_hold_65 : decode b_M_hold 65 = .ok (.iastore, 1) := by decide +kernel
theorem d_M_hold_66 : decode b_M_hold 66 = .ok (.aload_n 0, 1) := by decide +kernel
theorem d_M_hold_67 : decode b_M_hold 67 = .ok (.getfield 73, 3) := by decide +kernel
theorem d_M_hold_70 : decode b_M_hold 70 = .ok (.iload 5, 2) := by decide +kernel
theorem d_M_hold_72 : decode b_M_hold 72 = .ok (.iload_n 1, 1) := by decide +kernel
theorem d_M_hold_73 : decode b_M_hold 73 = .ok (.bipush (7), 2) := by decide +kernel
theorem d_M_hold_75 : decode b_M_hold 75 = .ok (.if_icmp .ne (7), 3) := by decide +kernel
theorem d_M_hold_78 : decode b_M_hold 78 = .ok (.iconst 1, 1) := by decide +kernel
theorem d_M_hold_79 : decode b_M_hold 79 = .ok (.goto (4), 3) := by decide +kernel
theorem d_M_hold_82 : decode b_M_hold 82 = .ok (.iconst 0, 1) := by decide +kernel
theorem d_M_hold_83 : decode b_M_hold 83 = .ok (.bastore, 1) := by decide +kernel
theorem d_M_hold_84 : decode b_M_hold 84 = .ok (.aload_n 0, 1) := by decide +kernel
theorem d_M_hold_85 : decode b_M_hold 85 = .ok (.getfield 76, 3) := by decide +kernel
theorem d_M_hold_88 : decode b_M_hold 88 = .ok (.iload 5, 2) := by decide +kernel
theorem d_M_hold_90 : decode b_M_hold 90 = .ok (.iload 4, 2) := by decide +kernel
theorem d_M_hold_92 : decode b_M_hold 92 = .ok (.bastore, 1) := by decide +kernel
theorem d_M_hold_93 : decode b_M_hold 93 = .ok (.aload_n 0, 1) := by decide +kernel
theorem d_M_hold_94 : decode b_M_hold 94 = .ok (.getfield 79, 3) := by decide +kernel
theorem d_M_hold_97 : decode b_M_hold 97 = .ok (.iload 5, 2) := by decide +kernel
theorem d_M_hold_99 : decode b_M_hold 99 = .ok (.iconst 0, 1) := by decide +kernel
theorem d_M_hold_100 : decode b_M_hold 100 = .ok (.bastore, 1) := by decide +kernel
theorem d_M_hold_101 : decode b_M_hold 101 = .ok (.aload_n 0, 1) := by decide +kernel
theorem d_M_hold_102 : decode b_M_hold 102 = .ok (.getfield 82, 3) := by decide +kernel
theorem d_M_hold_105 : decode b_M_hold 105 = .ok (.iload 5, 2) := by decide +kernel
theorem d_M_hold_107 : decode b_M_hold 107 = .ok (.iconst 0, 1) := by decide +kernel
theorem d_M_hold_108 : decode b_M_hold 108 = .ok (.bastore, 1) := by decide +kernel
theorem d_M_hold_109 : decode b_M_hold 109 = .ok (.aload_n 0, 1) := by decide +kernel
theorem d_M_hold_110 : decode b_M_hold 110 = .ok (.dup, 1) := by decide +kernel
theorem d_M_hold_111 : decode b_M_hold 111 = .ok (.getfield 166, 3) := by decide +kernel
theorem d_M_hold_114 : decode b_M_hold 114 = .ok (.iconst 1, 1) := by decide +kernel
theorem d_M_hold_115 : decode b_M_hold 115 = .ok (.iadd, 1) := by decide +kernel
theorem d_M_hold_116 : decode b_M_hold 116 = .ok (.putfield 166, 3) := by decide +kernel
theorem d_M_hold_119 : decode b_M_hold 119 = .ok (.return_, 1) := by decide +kernel
theorem d_M_holdsParagraph_0 : decode b_M_holdsParagraph 0 = .ok (.iconst 0, 1) := by decide +kernel
theorem d_M_holdsParagraph_1 : decode b_M_holdsParagraph 1 = .ok (.istore_n 2, 1) := by decide +kernel
theorem d_M_holdsParagraph_2 : decode b_M_holdsParagraph 2 = .ok (.iload_n 1, 1) := by decide +kernel
theorem d_M_holdsParagraph_3 : decode b_M_holdsParagraph 3 = .ok (.iconst 1, 1) := by decide +kernel
theorem d_M_holdsParagraph_4 : decode b_M_holdsParagraph 4 = .ok (.iadd, 1) := by decide +kernel
theorem d_M_holdsParagraph_5 : decode b_M_holdsParagraph 5 = .ok (.istore_n 3, 1) := by decide +kernel
theorem d_M_holdsParagraph_6 : decode b_M_holdsParagraph 6 = .ok (.iload_n 3, 1) := by decide +kernel
theorem d_M_holdsParagraph_7 : decode b_M_holdsParagraph 7 = .ok (.aload_n 0, 1) := by decide +kernel
theorem d_M_holdsParagraph_8 : decode b_M_holdsParagraph 8 = .ok (.getfield 101, 3) := by decide +kernel
theorem d_M_holdsParagraph_11 : decode b_M_holdsParagraph 11 = .ok (.if_icmp .ge (38), 3) := by decide +kernel
theorem d_M_holdsParagraph_14 : decode b_M_holdsParagraph 14 = .ok (.iload_n 2, 1) := by decide +kernel
theorem d_M_holdsParagraph_15 : decode b_M_holdsParagraph 15 = .ok (.ifCond .ne (22), 3) := by decide +kernel
theorem d_M_holdsParagraph_18 : decode b_M_holdsParagraph 18 = .ok (.aload_n 0, 1) := by decide +kernel
theorem d_M_holdsParagraph_19 : decode b_M_holdsParagraph 19 = .ok (.getfield 13, 3) := by decide +kernel
theorem d_M_holdsParagraph_22 : decode b_M_holdsParagraph 22 = .ok (.iload_n 3, 1) := by decide +kernel
theorem d_M_holdsParagraph_23 : decode b_M_holdsParagraph 23 = .ok (.iaload, 1) := by decide +kernel
theorem d_M_holdsParagraph_24 : decode b_M_holdsParagraph 24 = .ok (.iload_n 1, 1) := by decide +kernel
theorem d_M_holdsParagraph_25 : decode b_M_holdsParagraph 25 = .ok (.if_icmp .ne (16), 3) := by decide +kernel
theorem d_M_holdsParagraph_28 : decode b_M_holdsParagraph 28 = .ok (.aload_n 0, 1) := by decide +kernel
theorem d_M_holdsParagraph_29 : decode b_M_holdsParagraph 29 = .ok (.getfield 7, 3) := by decide +kernel
theorem d_M_holdsParagraph_32 : decode b_M_holdsParagraph 32 = .ok (.iload_n 3, 1) := by decide +kernel
theorem d_M_holdsParagraph_33 : decode b_M_holdsParagraph 33 = .ok (.iaload, 1) := by decide +kernel
theorem d_M_holdsParagraph_34 : decode b_M_holdsParagraph 34 = .ok (.ifCond .ne (7), 3) := by decide +kernel
theorem d_M_holdsParagraph_37 : decode b_M_holdsParagraph 37 = .ok (.iconst 1, 1) := by decide +kernel
theorem d_M_holdsParagraph_38 : decode b_M_holdsParagraph 38 = .ok (.goto (4), 3) := by decide +kernel
theorem d_M_holdsParagraph_41 : decode b_M_holdsParagraph 41 = .ok (.iconst 0, 1) := by decide +kernel
theorem d_M_holdsParagraph_42 : decode b_M_holdsParagraph 42 = .ok (.istore_n 2, 1) := by decide +kernel
theorem d_M_holdsParagraph_43 : decode b_M_holdsParagraph 43 = .ok (.iinc 3 (1), 3) := by decide +kernel
theorem d_M_holdsParagraph_46 : decode b_M_holdsParagraph 46 = .ok (.goto (-40), 3) := by decide +kernel
theorem d_M_holdsParagraph_49 : decode b_M_holdsParagraph 49 = .ok (.iload_n 2, 1) := by decide +kernel
theorem d_M_holdsParagraph_50 : decode b_M_holdsParagraph 50 = .ok (.ireturn, 1) := by decide +kernel
theorem d_M_holdsWideItem_0 : decode b_M_holdsWideItem 0 = .ok (.iconst 0, 1) := by decide +kernel
theorem d_M_holdsWideItem_1 : decode b_M_holdsWideItem 1 = .ok (.istore_n 2, 1) := by decide +kernel
theorem d_M_holdsWideItem_2 : decode b_M_holdsWideItem 2 = .ok (.iload_n 1, 1) := by decide +kernel
theorem d_M_holdsWideItem_3 : decode b_M_holdsWideItem 3 = .ok (.iconst 1, 1) := by decide +kernel
theorem d_M_holdsWideItem_4 : decode b_M_holdsWideItem 4 = .ok (.iadd, 1) := by decide +kernel
theorem d_M_holdsWideItem_5 : decode b_M_holdsWideItem 5 = .ok (.istore_n 3, 1) := by decide +kernel
theorem d_M_holdsWideItem_6 : decode b_M_holdsWideItem 6 = .ok (.iload_n 3, 1) := by decide +kernel
theorem d_M_holdsWideItem_7 : decode b_M_holdsWideItem 7 = .ok (.aload_n 0, 1) := by decide +kernel
theorem d_M_holdsWideItem_8 : decode b_M_holdsWideItem 8 = .ok (.getfield 101, 3) := by decide +kernel
theorem d_M_holdsWideItem_11 : decode b_M_holdsWideItem 11 = .ok (.if_icmp .ge (37), 3) := by decide +kernel
theorem d_M_holdsWideItem_14 : decode b_M_holdsWideItem 14 = .ok (.iload_n 2, 1) := by decide +kernel
theorem d_M_holdsWideItem_15 : decode b_M_holdsWideItem 15 = .ok (.ifCond .ne (21), 3) := by decide +kernel
theorem d_M_holdsWideItem_18 : decode b_M_holdsWideItem 18 = .ok (.aload_n 0, 1) := by decide +kernel
theorem d_M_holdsWideItem_19 : decode b_M_holdsWideItem 19 = .ok (.getfield 13, 3) := by decide +kernel
theorem d_M_holdsWideItem_22 : decode b_M_holdsWideItem 22 = .ok (.iload_n 3, 1) := by decide +kernel
theorem d_M_holdsWideItem_23 : decode b_M_holdsWideItem 23 = .ok (.iaload, 1) := by decide +kernel
theorem d_M_holdsWideItem_24 : decode b_M_holdsWideItem 24 = .ok (.iload_n 1, 1) := by decide +kernel
theorem d_M_holdsWideItem_25 : decode b_M_holdsWideItem 25 = .ok (.if_icmp .ne (15), 3) := by decide +kernel
theorem d_M_holdsWideItem_28 : decode b_M_holdsWideItem 28 = .ok (.aload_n 0, 1) := by decide +kernel
theorem d_M_holdsWideItem_29 : decode b_M_holdsWideItem 29 = .ok (.iload_n 3, 1) := by decide +kernel
theorem d_M_holdsWideItem_30 : decode b_M_holdsWideItem 30 = .ok (.invokevirtual 201, 3) := by decide +kernel
theorem d_M_holdsWideItem_33 : decode b_M_holdsWideItem 33 = .ok (.ifCond .eq (7), 3) := by decide +kernel
theorem d_M_holdsWideItem_36 : decode b_M_holdsWideItem 36 = .ok (.iconst 1, 1) := by decide +kernel
theorem d_M_holdsWideItem_37 : decode b_M_holdsWideItem 37 = .ok (.goto (4), 3) := by decide +kernel
theorem d_M_holdsWideItem_40 : decode b_M_holdsWideItem 40 = .ok (.iconst 0, 1) := by decide +kernel
theorem d_M_holdsWideItem_41 : decode b_M_holdsWideItem 41 = .ok (.istore_n 2, 1) := by decide +kernel
theorem d_M_holdsWideItem_42 : decode b_M_holdsWideItem 42 = .ok (.iinc 3 (1), 3) := by decide +kernel
theorem d_M_holdsWideItem_45 : decode b_M_holdsWideItem 45 = .ok (.goto (-39), 3) := by decide +kernel
theorem d_M_holdsWideItem_48 : decode b_M_holdsWideItem 48 = .ok (.iload_n 2, 1) := by decide +kernel
theorem d_M_holdsWideItem_49 : decode b_M_holdsWideItem 49 = .ok (.ireturn, 1) := by decide +kernel
theorem d_M_layCode_0 : decode b_M_layCode 0 = .ok (.aload_n 0, 1) := by decide +kernel
theorem d_M_layCode_1 : decode b_M_layCode 1 = .ok (.invokevirtual 204, 3) := by decide +kernel
theorem d_M_layCode_4 : decode b_M_layCode 4 = .ok (.iload_n 1, 1) := by decide +kernel
theorem d_M_layCode_5 : decode b_M_layCode 5 = .ok (.iconst 1, 1) := by decide +kernel
theorem d_M_layCode_6 : decode b_M_layCode 6 = .ok (.iadd, 1) := by decide +kernel
theorem d_M_layCode_7 : decode b_M_layCode 7 = .ok (.istore_n 2, 1) := by decide +kernel
theorem d_M_layCode_8 : decode b_M_layCode 8 = .ok (.iload_n 2, 1) := by decide +kernel
theorem d_M_layCode_9 : decode b_M_layCode 9 = .ok (.aload_n 0, 1) := by decide +kernel
theorem d_M_layCode_10 : decode b_M_layCode 10 = .ok (.getfield 101, 3) := by decide +kernel
theorem d_M_layCode_13 : decode b_M_layCode 13 = .ok (.if_icmp .ge (94), 3) := by decide +kernel
theorem d_M_layCode_16 : decode b_M_layCode 16 = .ok (.aload_n 0, 1) := by decide +kernel
theorem d_M_layCode_17 : decode b_M_layCode 17 = .ok (.getfield 13, 3) := by decide +kernel
theorem d_M_layCode_20 : decode b_M_layCode 20 = .ok (.iload_n 2, 1) := by decide +kernel
theorem d_M_layCode_21 : decode b_M_layCode 21 = .ok (.iaload, 1) := by decide +kernel
theorem d_M_layCode_22 : decode b_M_layCode 22 = .ok (.iload_n 1, 1) := by decide +kernel
theorem d_M_layCode_23 : decode b_M_layCode 23 = .ok (.if_icmp .eq (6), 3) := by decide +kernel
theorem d_M_layCode_26 : decode b_M_layCode 26 = .ok (.goto (75), 3) := by decide +kernel
theorem d_M_layCode_29 : decode b_M_layCode 29 = .ok (.iconst 0, 1) := by decide +kernel
theorem d_M_layCode_30 : decode b_M_layCode 30 = .ok (.istore_n 3, 1) := by decide +kernel
theorem d_M_layCode_31 : decode b_M_layCode 31 = .ok (.iload_n 3, 1) := by decide +kernel
theorem d_M_layCode_32 : decode b_M_layCode 32 = .ok (.aload_n 0, 1) := by decide +kernel
theorem d_M_layCode_33 : decode b_M_layCode 33 = .ok (.getfield 25, 3) := by decide +kernel
theorem d_M_layCode_36 : decode b_M_layCode 36 = .ok (.iload_n 2, 1) := by decide +kernel
theorem d_M_layCode_37 : decode b_M_layCode 37 = .ok (.iaload, 1) := by decide +kernel
theorem d_M_layCode_38 : decode b_M_layCode 38 = .ok (.if_icmp .ge (63), 3) := by decide +kernel
theorem d_M_layCode_41 : decode b_M_layCode 41 = .ok (.aload_n 0, 1) := by decide +kernel
theorem d_M_layCode_42 : decode b_M_layCode 42 = .ok (.getfield 31, 3) := by decide +kernel
theorem d_M_layCode_45 : decode b_M_layCode 45 = .ok (.aload_n 0, 1) := by decide +kernel
theorem d_M_layCode_46 : decode b_M_layCode 46 = .ok (.getfield 22, 3) := by decide +kernel
theorem d_M_layCode_49 : decode b_M_layCode 49 = .ok (.iload_n 2, 1) := by decide +kernel
theorem d_M_layCode_50 : decode b_M_layCode 50 = .ok (.iaload, 1) := by decide +kernel
theorem d_M_layCode_51 : decode b_M_layCode 51 = .ok (.iload_n 3, 1) := by decide +kernel
theorem d_M_layCode_52 : decode b_M_layCode 52 = .ok (.iadd, 1) := by decide +kernel
theorem d_M_layCode_53 : decode b_M_layCode 53 = .ok (.baload, 1) := by decide +kernel
theorem d_M_layCode_54 : decode b_M_layCode 54 = .ok (.sipush (255), 3) := by decide +kernel
theorem d_M_layCode_57 : decode b_M_layCode 57 = .ok (.iand, 1) := by decide +kernel
theorem d_M_layCode_58 : decode b_M_layCode 58 = .ok (.istore 4, 2) := by decide +kernel
theorem d_M_layCode_60 : decode b_M_layCode 60 = .ok (.iload 4, 2) := by decide +kernel
theorem d_M_layCode_62 : decode b_M_layCode 62 = .ok (.bipush (10), 2) := by decide +kernel
theorem d_M_layCode_64 : decode b_M_layCode 64 = .ok (.if_icmp .ne (10), 3) := by decide +kernel
theorem d_M_layCode_67 : decode b_M_layCode 67 = .ok (.aload_n 0, 1) := by decide +kernel
theorem d_M_layCode_68 : decode b_M_layCode 68 = .ok (.invokevirtual 207, 3) := by decide +kernel
theorem d_M_layCode_71 : decode b_M_layCode 71 = .ok (.goto (24), 3) := by decide +kernel
theorem d_M_layCode_74 : decode b_M_layCode 74 = .ok (.aload_n 0, 1) := by decide +kernel
theorem d_M_layCode_75 : decode b_M_layCode 75 = .ok (.getfield 85, 3) := by decide +kernel
theorem d_M_layCode_78 : decode b_M_layCode 78 = .ok (.aload_n 0, 1) := by decide +kernel
theorem d_M_layCode_79 : decode b_M_layCode 79 = .ok (.getfield 186, 3) := by decide +kernel
theorem d_M_layCode_82 : decode b_M_layCode 82 = .ok (.iload 4, 2) := by decide +kernel
theorem d_M_layCode_84 : decode b_M_layCode 84 = .ok (.iastore, 1) := by decide +kernel
theorem d_M_layCode_85 : decode b_M_layCode 85 = .ok (.aload_n 0, 1) := by decide +kernel
theorem d_M_layCode_86 : decode b_M_layCode 86 = .ok (.dup, 1) := by decide +kernel
theorem d_M_layCode_87 : decode b_M_layCode 87 = .ok (.getfield 186, 3) := by decide +kernel
theorem d_M_layCode_90 : decode b_M_layCode 90 = .ok (.iconst 1, 1) := by decide +kernel
theorem d_M_layCode_91 : decode b_M_layCode 91 = .ok (.iadd, 1) := by decide +kernel
theorem d_M_layCode_92 : decode b_M_layCode 92 = .ok (.putfield 186, 3) := by decide +kernel
theorem d_M_layCode_95 : decode b_M_layCode 95 = .ok (.iinc 3 (1), 3) := by decide +kernel
theorem d_M_layCode_98 : decode b_M_layCode 98 = .ok (.goto (-67), 3) := by decide +kernel
theorem d_M_layCode_101 : decode b_M_layCode 101 = .ok (.iinc 2 (1), 3) := by decide +kernel
theorem d_M_layCode_104 : decode b_M_layCode 104 = .ok (.goto (-96), 3) := by decide +kernel
theorem d_M_layCode_107 : decode b_M_layCode 107 = .ok (.aload_n 0, 1) := by decide +kernel
theorem d_M_layCode_108 : decode b_M_layCode 108 = .ok (.getfield 186, 3) := by decide +kernel
theorem d_M_layCode_111 : decode b_M_layCode 111 = .ok (.ifCond .le (7), 3) := by decide +kernel
theorem d_M_layCode_114 : decode b_M_layCode 114 = .ok (.aload_n 0, 1) := by decide +kernel
theorem d_M_layCode_115 : decode b_M_layCode 115 = .ok (.invokevirtual 207, 3) := by decide +kernel
theorem d_M_layCode_118 : decode b_M_layCode 118 = .ok (.aload_n 0, 1) := by decide +kernel
theorem d_M_layCode_119 : decode b_M_layCode 119 = .ok (.iconst 0, 1) := by decide +kernel
theorem d_M_layCode_120 : decode b_M_layCode 120 = .ok (.putfield 198, 3) := by decide +kernel
theorem d_M_layCode_123 : decode b_M_layCode 123 = .ok (.return_, 1) := by decide +kernel
theorem d_M_layPieces_0 : decode b_M_layPieces 0 = .ok (.iconst 0, 1) := by decide +kernel
theorem d_M_layPieces_1 : decode b_M_layPieces 1 = .ok (.istore_n 1, 1) := by decide +kernel
theorem d_M_layPieces_2 : decode b_M_layPieces 2 = .ok (.aload_n 0, 1) := by decide +kernel
theorem d_M_layPieces_3 : decode b_M_layPieces 3 = .ok (.getfield 186, 3) := by decide +kernel
theorem d_M_layPieces_6 : decode b_M_layPieces 6 = .ok (.iload_n 1, 1) := by decide +kernel
theorem d_M_layPieces_7 : decode b_M_layPieces 7 = .ok (.isub, 1) := by decide +kernel
theorem d_M_layPieces_8 : decode b_M_layPieces 8 = .ok (.aload_n 0, 1) := by decide +kernel
theorem d_M_layPieces_9 : decode b_M_layPieces 9 = .ok (.getfield 189, 3) := by decide +kernel
theorem d_M_layPieces_12 : decode b_M_layPieces 12 = .ok (.if_icmp .ge (12), 3) := by decide +kernel
theorem d_M_layPieces_15 : decode b_M_layPieces 15 = .ok (.aload_n 0, 1) := by decide +kernel
theorem d_M_layPieces_16 : decode b_M_layPieces 16 = .ok (.getfield 186, 3) := by decide +kernel
theorem d_M_layPieces_19 : decode b_M_layPieces 19 = .ok (.iload_n 1, 1) := by decide +kernel
theorem d_M_layPieces_20 : decode b_M_layPieces 20 = .ok (.isub, 1) := by decide +kernel
theorem d_M_layPieces_21 : decode b_M_layPieces 21 = .ok (.goto (7), 3) := by decide +kernel
theorem d_M_layPieces_24 : decode b_M_layPieces 24 = .ok (.aload_n 0, 1) := by decide +kernel
theorem d_M_layPieces_25 : decode b_M_layPieces 25 = .ok (.getfield 189, 3) := by decide +kernel
theorem d_M_layPieces_28 : decode b_M_layPieces 28 = .ok (.istore_n 2, 1) := by decide +kernel
theorem d_M_layPieces_29 : decode b_M_layPieces 29 = .ok (.aload_n 0, 1) := by decide +kernel
theorem d_M_layPieces_30 : decode b_M_layPieces 30 = .ok (.aload_n 0, 1) := by decide +kernel
theorem d_M_layPieces_31 : decode b_M_layPieces 31 = .ok (.getfield 85, 3) := by decide +kernel
theorem d_M_layPieces_34 : decode b_M_layPieces 34 = .ok (.iload_n 1, 1) := by decide +kernel
theorem d_M_layPieces_35 : decode b_M_layPieces 35 = .ok (.iload_n 2, 1) := by decide +kernel
theorem d_M_layPieces_36 : decode b_M_layPieces 36 = .ok (.invokevirtual 182, 3) := by decide +kernel
theorem d_M_layPieces_39 : decode b_M_layPieces 39 = .ok (.iload_n 1, 1) := by decide +kernel
theorem d_M_layPieces_40 : decode b_M_layPieces 40 = .ok (.iload_n 2, 1) := by decide +kernel
theorem d_M_layPieces_41 : decode b_M_layPieces 41 = .ok (.iadd, 1) := by decide +kernel
theorem d_M_layPieces_42 : decode b_M_layPieces 42 = .ok (.istore_n 1, 1) := by decide +kernel
theorem d_M_layPieces_43 : decode b_M_layPieces 43 = .ok (.iload_n 1, 1) := by decide +kernel
theorem d_M_layPieces_44 : decode b_M_layPieces 44 = .ok (.aload_n 0, 1) := by decide +kernel
theorem d_M_layPieces_45 : decode b_M_layPieces 45 = .ok (.getfield 186, 3) := by decide +kernel
theorem d_M_layPieces_48 : decode b_M_layPieces 48 = .ok (.if_icmp .lt (-46), 3) := by decide +kernel
theorem d_M_layPieces_51 : decode b_M_layPieces 51 = .ok (.aload_n 0, 1) := by decide +kernel
theorem d_M_layPieces_52 : decode b_M_layPieces 52 = .ok (.iconst 0, 1) := by decide +kernel
theorem d_M_layPieces_53 : decode b_M_layPieces 53 = .ok (.putfield 186, 3) := by decide +kernel
theorem d_M_layPieces_56 : decode b_M_layPieces 56 = .ok (.return_, 1) := by decide +kernel
theorem d_M_beginNode_0 : decode b_M_beginNode 0 = .ok (.aload_n 0, 1) := by decide +kernel
theorem d_M_beginNode_1 : decode b_M_beginNode 1 = .ok (.getfield 7, 3) := by decide +kernel
theorem d_M_beginNode_4 : decode b_M_beginNode 4 = .ok (.iload_n 1, 1) := by decide +kernel
theorem d_M_beginNode_5 : decode b_M_beginNode 5 = .ok (.iaload, 1) := by decide +kernel
theorem d_M_beginNode_6 : decode b_M_beginNode 6 = .ok (.istore_n 2, 1) := by decide +kernel
theorem d_M_beginNode_7 : decode b_M_beginNode 7 = .ok (.iload_n 2, 1) := by decide +kernel
theorem d_M_beginNode_8 : decode b_M_beginNode 8 = .ok (.invokestatic 125, 3) := by decide +kernel
theorem d_M_beginNode_11 : decode b_M_beginNode 11 = .ok (.ifCond .eq (14), 3) := by decide +kernel
theorem d_M_beginNode_14 : decode b_M_beginNode 14 = .ok (.aload_n 0, 1) := by decide +kernel
theorem d_M_beginNode_15 : decode b_M_beginNode 15 = .ok (.getfield 198, 3) := by decide +kernel
theorem d_M_beginNode_18 : decode b_M_beginNode 18 = .ok (.ifCond .eq (7), 3) := by decide +kernel
theorem d_M_beginNode_21 : decode b_M_beginNode 21 = .ok (.aload_n 0, 1) := by decide +kernel
theorem d_M_beginNode_22 : decode b_M_beginNode 22 = .ok (.invokevirtual 210, 3) := by decide +kernel
theorem d_M_beginNode_25 : decode b_M_beginNode 25 = .ok (.iload_n 2, 1) := by decide +kernel
theorem d_M_beginNode_26 : decode b_M_beginNode 26 = .ok (.invokestatic 129, 3) := by decide +kernel
theorem d_M_beginNode_29 : decode b_M_beginNode 29 = .ok (.ifCond .eq (53), 3) := by decide +kernel
theorem d_M_beginNode_32 : decode b_M_beginNode 32 = .ok (.aload_n 0, 1) := by decide +kernel
theorem d_M_beginNode_33 : decode b_M_beginNode 33 = .ok (.getfield 198, 3) := by decide +kernel
theorem d_M_beginNode_36 : decode b_M_beginNode 36 = .ok (.ifCond .ne (46), 3) := by decide +kernel
theorem d_M_beginNode_39 : decode b_M_beginNode 39 = .ok (.aload_n 0, 1) := by decide +kernel
theorem d_M_beginNode_40 : decode b_M_beginNode 40 = .ok (.getfield 166, 3) := by decide +kernel
theorem d_M_beginNode_43 : decode b_M_beginNode 43 = .ok (.ifCond .le (39), 3) := by decide +kernel
theorem d_M_beginNode_46 : decode b_M_beginNode 46 = .ok (.aload_n 0, 1) := by decide +kernel
theorem d_M_beginNode_47 : decode b_M_beginNode 47 = .ok (.getfield 61, 3) := by decide +kernel
theorem d_M_beginNode_50 : decode b_M_beginNode 50 = .ok (.aload_n 0, 1) := by decide +kernel
theorem d_M_beginNode_51 : decode b_M_beginNode 51 = .ok (.getfield 166, 3) := by decide +kernel
theorem d_M_beginNode_54 : decode b_M_beginNode 54 = .ok (.iconst 1, 1) := by decide +kernel
theorem d_M_beginNode_55 : decode b_M_beginNode 55 = .ok (.isub, 1) := by decide +kernel
theorem d_M_beginNode_56 : decode b_M_beginNode 56 = .ok (.iaload, 1) := by decide +kernel
theorem d_M_beginNode_57 : decode b_M_beginNode 57 = .ok (.bipush (7), 2) := by decide +kernel
theorem d_M_beginNode_59 : decode b_M_beginNode 59 = .ok (.if_icmp .ne (23), 3) := by decide +kernel
theorem d_M_beginNode_62 : decode b_M_beginNode 62 = .ok (.aload_n 0, 1) := by decide +kernel
theorem d_M_beginNode_63 : decode b_M_beginNode 63 = .ok (.getfield 7, 3) := by decide +kernel
theorem d_M_beginNode_66 : decode b_M_beginNode 66 = .ok (.aload_n 0, 1) := by decide +kernel
theorem d_M_beginNode_67 : decode b_M_beginNode 67 = .ok (.getfield 13, 3) := by decide +kernel
theorem d_M_beginNode_70 : decode b_M_beginNode 70 = .ok (.iload_n 1, 1) := by decide +kernel
theorem d_M_beginNode_71 : decode b_M_beginNode 71 = .ok (.iaload, 1) := by decide +kernel
theorem d_M_beginNode_72 : decode b_M_beginNode 72 = .ok (.iaload, 1) := by decide +kernel
theorem d_M_beginNode_73 : decode b_M_beginNode 73 = .ok (.bipush (7), 2) := by decide +kernel
theorem d_M_beginNode_75 : decode b_M_beginNode 75 = .ok (.if_icmp .ne (7), 3) := by decide +kernel
theorem d_M_beginNode_78 : decode b_M_beginNode 78 = .ok (.aload_n 0, 1) := by decide +kernel
theorem d_M_beginNode_79 : decode b_M_beginNode 79 = .ok (.invokevirtual 204, 3) := by decide +kernel
theorem d_M_beginNode_82 : decode b_M_beginNode 82 = .ok (.aload_n 0, 1) := by decide +kernel
theorem d_M_beginNode_83 : decode b_M_beginNode 83 = .ok (.getfield 166, 3) := by decide +kernel
theorem d_M_beginNode_86 : decode b_M_beginNode 86 = .ok (.ifCond .le (17), 3) := by decide +kernel
theorem d_M_beginNode_89 : decode b_M_beginNode 89 = .ok (.aload_n 0, 1) := by decide +kernel
theorem d_M_beginNode_90 : decode b_M_beginNode 90 = .ok (.getfield 64, 3) := by decide +kernel
theorem d_M_beginNode_93 : decode b_M_beginNode 93 = .ok (.aload_n 0, 1) := by decide +kernel
theorem d_M_beginNode_94 : decode b_M_beginNode 94 = .ok (.getfield 166, 3) := by decide +kernel
theorem d_M_beginNode_97 : decode b_M_beginNode 97 = .ok (.iconst 1, 1) := by decide +kernel
theorem d_M_beginNode_98 : decode b_M_beginNode 98 = .ok (.isub, 1) := by decide +kernel
theorem d_M_beginNode_99 : decode b_M_beginNode 99 = .ok (.iaload, 1) := by decide +kernel
theorem d_M_beginNode_100 : decode b_M_beginNode 100 = .ok (.goto (7), 3) := by decide +kernel
theorem d_M_beginNode_103 : decode b_M_beginNode 103 = .ok (.aload_n 0, 1) := by decide +kernel
theorem d_M_beginNode_104 : decode b_M_beginNode 104 = .ok (.getfield 119, 3) := by decide +kernel
theorem d_M_beginNode_107 : decode b_M_beginNode 107 = .ok (.istore_n 3, 1) := by decide +kernel
theorem d_M_beginNode_108 : decode b_M_beginNode 108 = .ok (.iload_n 2, 1) := by decide +kernel
theorem d_M_beginNode_109 : decode b_M_beginNode 109 = .ok (.bipush (10), 2) := by decide +kernel
theorem d_M_beginNode_111 : decode b_M_beginNode 111 = .ok (.if_icmp .ne (22), 3) := by decide +kernel
theorem d_M_beginNode_114 : decode b_M_beginNode 114 = .ok (.aload_n 0, 1) := by decide +kernel
theorem d_M_beginNode_115 : decode b_M_beginNode 115 = .ok (.getfield 7, 3) := by decide +kernel
theorem d_M_beginNode_118 : decode b_M_beginNode 118 = .ok (.aload_n 0, 1) := by decide +kernel
theorem d_M_beginNode_119 : decode b_M_beginNode 119 = .ok (.getfield 13, 3) := by decide +kernel
theorem d_M_beginNode_122 : decode b_M_beginNode 122 = .ok (.iload_n 1, 1) := by decide +kernel
theorem d_M_beginNode_123 : decode b_M_beginNode 123 = .ok (.iaload, 1) := by decide +kernel
theorem d_M_beginNode_124 : decode b_M_beginNode 124 = .ok (.iaload, 1) := by decide +kernel
theorem d_M_beginNode_125 : decode b_M_beginNode 125 = .ok (.iconst 3, 1) := by decide +kernel
theorem d_M_beginNode_126 : decode b_M_beginNode 126 = .ok (.if_icmp .ne (7), 3) := by decide +kernel
theorem d_M_beginNode_129 : decode b_M_beginNode 129 = .ok (.iconst 1, 1) := by decide +kernel
theorem d_M_beginNode_130 : decode b_M_beginNode 130 = .ok (.goto (4), 3) := by decide +kernel
theorem d_M_beginNode_133 : decode b_M_beginNode 133 = .ok (.iconst 0, 1) := by decide +kernel
theorem d_M_beginNode_134 : decode b_M_beginNode 134 = .ok (.istore 4, 2) := by decide +kernel
theorem d_M_beginNode_136 : decode b_M_beginNode 136 = .ok (.aload_n 0, 1) := by decide +kernel
theorem d_M_beginNode_137 : decode b_M_beginNode 137 = .ok (.getfield 58, 3) := by decide +kernel
theorem d_M_beginNode_140 : decode b_M_beginNode 140 = .ok (.iload_n 1, 1) := by decide +kernel
theorem d_M_beginNode_141 : decode b_M_beginNode 141 = .ok (.iload_n 2, 1) := by decide +kernel
theorem d_M_beginNode_142 : decode b_M_beginNode 142 = .ok (.invokestatic 129, 3) := by decide +kernel
theorem d_M_beginNode_145 : decode b_M_beginNode 145 = .ok (.ifCond .eq (29), 3) := by decide +kernel
theorem d_M_beginNode_148 : decode b_M_beginNode 148 = .ok (.aload_n 0, 1) := by decide +kernel
theorem d_M_beginNode_149 : decode b_M_beginNode 149 = .ok (.getfield 176, 3) := by decide +kernel
theorem d_M_beginNode_152 : decode b_M_beginNode 152 = .ok (.ifCond .lt (22), 3) := by decide +kernel
theorem d_M_beginNode_155 : decode b_M_beginNode 155 = .ok (.aload_n 0, 1) := by decide +kernel
theorem d_M_beginNode_156 : decode b_M_beginNode 156 = .ok (.getfield 198, 3) := by decide +kernel
theorem d_M_beginNode_159 : decode b_M_beginNode 159 = .ok (.ifCond .ne (8), 3) := by decide +kernel
theorem d_M_beginNode_162 : decode b_M_beginNode 162 = .ok (.iload 4, 2) := by decide +kernel
theorem d_M_beginNode_164 : decode b_M_beginNode 164 = .ok (.ifCond .eq (10), 3) := by decide +kernel
theorem d_M_beginNode_167 : decode b_M_beginNode 167 = .ok (.aload_n 0, 1) := by decide +kernel
theorem d_M_beginNode_168 : decode b_M_beginNode 168 = .ok (.getfield 176, 3) := by decide +kernel
theorem d_M_beginNode_171 : decode b_M_beginNode 171 = .ok (.goto (10), 3) := by decide +kernel
theorem d_M_beginNode_174 : decode b_M_beginNode 174 = .ok (.bipush (-2), 2) := by decide +kernel
theorem d_M_beginNode_176 : decode b_M_beginNode 176 = .ok (.aload_n 0, 1) := by decide +kernel
theorem d_M_beginNode_177 : decode b_M_beginNode 177 = .ok (.getfield 159, 3) := by decide +kernel
theorem d_M_beginNode_180 : decode b_M_beginNode 180 = .ok (.isub, 1) := by decide +kernel
theorem d_M_beginNode_181 : decode b_M_beginNode 181 = .ok (.iastore, 1) := by decide +kernel
theorem d_M_beginNode_182 : decode b_M_beginNode 182 = .ok (.iload_n 2, 1) := by decide +kernel
theorem d_M_beginNode_183 : decode b_M_beginNode 183 = .ok (.tableswitch (355) (0) (11) #[196, 203, 240, 286, 76, 89, 104, 125, 355, 294, 305, 61], 61) := by decide +kernel
theorem d_M_beginNode_244 : decode b_M_beginNode 244 = .ok (.aload_n 0, 1) := by decide +kernel
theorem d_M_beginNode_245 : decode b_M_beginNode 245 = .ok (.bipush (11), 2) := by decide +kernel
theorem d_M_beginNode_247 : decode b_M_beginNode 247 = .ok (.aload_n 0, 1) := by decide +kernel
theorem d_M_beginNode_248 : decode b_M_beginNode 248 = .ok (.getfield 119, 3) := by decide +kernel
theorem d_M_beginNode_251 : decode b_M_beginNode 251 = .ok (.iconst (-1), 1) := by decide +kernel
theorem d_M_beginNode_252 : decode b_M_beginNode 252 = .ok (.iconst 1, 1) := by decide +kernel
theorem d_M_beginNode_253 : decode b_M_beginNode 253 = .ok (.invokevirtual 213, 3) := by decide +kernel
theorem d_M_beginNode_256 : decode b_M_beginNode 256 = .ok (.goto (282), 3) := by decide +kernel
theorem d_M_beginNode_259 : decode b_M_beginNode 259 = .ok (.aload_n 0, 1) := by decide +kernel
theorem d_M_beginNode_260 : decode b_M_beginNode 260 = .ok (.iconst 4, 1) := by decide +kernel
theorem d_M_beginNode_261 : decode b_M_beginNode 261 = .ok (.iload_n 3, 1) := by decide +kernel
theorem d_M_beginNode_262 : decode b_M_beginNode 262 = .ok (.iconst 2, 1) := by decide +kernel
theorem d_M_beginNode_263 : decode b_M_beginNode 263 = .ok (.isub, 1) := by decide +kernel
theorem d_M_beginNode_264 : decode b_M_beginNode 264 = .ok (.iconst (-1), 1) := by decide +kernel
theorem d_M_beginNode_265 : decode b_M_beginNode 265 = .ok (.iconst 1, 1) := by decide +kernel
theorem d_M_beginNode_266 : decode b_M_beginNode 266 = .ok (.invokevirtual 213, 3) := by decide +kernel
theorem d_M_beginNode_269 : decode b_M_beginNode 269 = .ok (.goto (269), 3) := by decide +kernel
theorem d_M_beginNode_272 : decode b_M_beginNode 272 = .ok (.aload_n 0, 1) := by decide +kernel
theorem d_M_beginNode_273 : decode b_M_beginNode 273 = .ok (.iconst 5, 1) := by decide +kernel
theorem d_M_beginNode_274 : decode b_M_beginNode 274 = .ok (.iload_n 3, 1) := by decide +kernel
theorem d_M_beginNode_275 : decode b_M_beginNode 275 = .ok (.iconst (-1), 1) := by decide +kernel
theorem d_M_beginNode_276 : decode b_M_beginNode 276 = .ok (.aload_n 0, 1) := by decide +kernel
theorem d_M_beginNode_277 : decode b_M_beginNode 277 = .ok (.iload_n 1, 1) := by decide +kernel
theorem d_M_beginNode_278 : decode b_M_beginNode 278 = .ok (.invokevirtual 217, 3) := by decide +kernel
theorem d_M_beginNode_281 : decode b_M_beginNode 281 = .ok (.invokevirtual 213, 3) := by decide +kernel
theorem d_M_beginNode_284 : decode b_M_beginNode 284 = .ok (.goto (254), 3) := by decide +kernel
theorem d_M_beginNode_287 : decode b_M_beginNode 287 = .ok (.aload_n 0, 1) := by decide +kernel
theorem d_M_beginNode_288 : decode b_M_beginNode 288 = .ok (.bipush (6), 2) := by decide +kernel
theorem d_M_beginNode_290 : decode b_M_beginNode 290 = .ok (.iload_n 3, 1) := by decide +kernel
theorem d_M_beginNode_291 : decode b_M_beginNode 291 = .ok (.aload_n 0, 1) := by decide +kernel
theorem d_M_beginNode_292 : decode b_M_beginNode 292 = .ok (.getfield 16, 3) := by decide +kernel
