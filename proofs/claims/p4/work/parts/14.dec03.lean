theorem d_M_empty_22 : decode b_M_empty 22 = .ok (.aload_n 0, 1) := by decide +kernel
theorem d_M_empty_23 : decode b_M_empty 23 = .ok (.getfield 28, 3) := by decide +kernel
theorem d_M_empty_26 : decode b_M_empty 26 = .ok (.iconst 0, 1) := by decide +kernel
theorem d_M_empty_27 : decode b_M_empty 27 = .ok (.iconst (-1), 1) := by decide +kernel
theorem d_M_empty_28 : decode b_M_empty 28 = .ok (.iastore, 1) := by decide +kernel
theorem d_M_empty_29 : decode b_M_empty 29 = .ok (.aload_n 0, 1) := by decide +kernel
theorem d_M_empty_30 : decode b_M_empty 30 = .ok (.getfield 16, 3) := by decide +kernel
theorem d_M_empty_33 : decode b_M_empty 33 = .ok (.iconst 0, 1) := by decide +kernel
theorem d_M_empty_34 : decode b_M_empty 34 = .ok (.iconst 0, 1) := by decide +kernel
theorem d_M_empty_35 : decode b_M_empty 35 = .ok (.iastore, 1) := by decide +kernel
theorem d_M_empty_36 : decode b_M_empty 36 = .ok (.aload_n 0, 1) := by decide +kernel
theorem d_M_empty_37 : decode b_M_empty 37 = .ok (.getfield 25, 3) := by decide +kernel
theorem d_M_empty_40 : decode b_M_empty 40 = .ok (.iconst 0, 1) := by decide +kernel
theorem d_M_empty_41 : decode b_M_empty 41 = .ok (.iconst 0, 1) := by decide +kernel
theorem d_M_empty_42 : decode b_M_empty 42 = .ok (.iastore, 1) := by decide +kernel
theorem d_M_empty_43 : decode b_M_empty 43 = .ok (.aload_n 0, 1) := by decide +kernel
theorem d_M_empty_44 : decode b_M_empty 44 = .ok (.iconst 1, 1) := by decide +kernel
theorem d_M_empty_45 : decode b_M_empty 45 = .ok (.putfield 101, 3) := by decide +kernel
theorem d_M_empty_48 : decode b_M_empty 48 = .ok (.aload_n 0, 1) := by decide +kernel
theorem d_M_empty_49 : decode b_M_empty 49 = .ok (.iconst 0, 1) := by decide +kernel
theorem d_M_empty_50 : decode b_M_empty 50 = .ok (.putfield 104, 3) := by decide +kernel
theorem d_M_empty_53 : decode b_M_empty 53 = .ok (.aload_n 0, 1) := by decide +kernel
theorem d_M_empty_54 : decode b_M_empty 54 = .ok (.iconst 0, 1) := by decide +kernel
theorem d_M_empty_55 : decode b_M_empty 55 = .ok (.putfield 107, 3) := by decide +kernel
theorem d_M_empty_58 : decode b_M_empty 58 = .ok (.aload_n 0, 1) := by decide +kernel
theorem d_M_empty_59 : decode b_M_empty 59 = .ok (.iconst 0, 1) := by decide +kernel
theorem d_M_empty_60 : decode b_M_empty 60 = .ok (.putfield 110, 3) := by decide +kernel
theorem d_M_empty_63 : decode b_M_empty 63 = .ok (.aload_n 0, 1) := by decide +kernel
theorem d_M_empty_64 : decode b_M_empty 64 = .ok (.iconst 0, 1) := by decide +kernel
theorem d_M_empty_65 : decode b_M_empty 65 = .ok (.putfield 113, 3) := by decide +kernel
theorem d_M_empty_68 : decode b_M_empty 68 = .ok (.aload_n 0, 1) := by decide +kernel
theorem d_M_empty_69 : decode b_M_empty 69 = .ok (.iconst 0, 1) := by decide +kernel
theorem d_M_empty_70 : decode b_M_empty 70 = .ok (.putfield 116, 3) := by decide +kernel
theorem d_M_empty_73 : decode b_M_empty 73 = .ok (.aload_n 0, 1) := by decide +kernel
theorem d_M_empty_74 : decode b_M_empty 74 = .ok (.iconst 0, 1) := by decide +kernel
theorem d_M_empty_75 : decode b_M_empty 75 = .ok (.putfield 119, 3) := by decide +kernel
theorem d_M_empty_78 : decode b_M_empty 78 = .ok (.aload_n 0, 1) := by decide +kernel
theorem d_M_empty_79 : decode b_M_empty 79 = .ok (.iconst 0, 1) := by decide +kernel
theorem d_M_empty_80 : decode b_M_empty 80 = .ok (.putfield 122, 3) := by decide +kernel
theorem d_M_empty_83 : decode b_M_empty 83 = .ok (.return_, 1) := by decide +kernel
theorem d_M_isBlock_0 : decode b_M_isBlock 0 = .ok (.iload_n 0, 1) := by decide +kernel
theorem d_M_isBlock_1 : decode b_M_isBlock 1 = .ok (.ifCond .lt (13), 3) := by decide +kernel
theorem d_M_isBlock_4 : decode b_M_isBlock 4 = .ok (.iload_n 0, 1) := by decide +kernel
theorem d_M_isBlock_5 : decode b_M_isBlock 5 = .ok (.bipush (6), 2) := by decide +kernel
theorem d_M_isBlock_7 : decode b_M_isBlock 7 = .ok (.if_icmp .gt (7), 3) := by decide +kernel
theorem d_M_isBlock_10 : decode b_M_isBlock 10 = .ok (.iconst 1, 1) := by decide +kernel
theorem d_M_isBlock_11 : decode b_M_isBlock 11 = .ok (.goto (4), 3) := by decide +kernel
theorem d_M_isBlock_14 : decode b_M_isBlock 14 = .ok (.iconst 0, 1) := by decide +kernel
theorem d_M_isBlock_15 : decode b_M_isBlock 15 = .ok (.ireturn, 1) := by decide +kernel
theorem d_M_isInline_0 : decode b_M_isInline 0 = .ok (.iload_n 0, 1) := by decide +kernel
theorem d_M_isInline_1 : decode b_M_isInline 1 = .ok (.bipush (8), 2) := by decide +kernel
theorem d_M_isInline_3 : decode b_M_isInline 3 = .ok (.if_icmp .lt (13), 3) := by decide +kernel
theorem d_M_isInline_6 : decode b_M_isInline 6 = .ok (.iload_n 0, 1) := by decide +kernel
theorem d_M_isInline_7 : decode b_M_isInline 7 = .ok (.bipush (10), 2) := by decide +kernel
theorem d_M_isInline_9 : decode b_M_isInline 9 = .ok (.if_icmp .gt (7), 3) := by decide +kernel
theorem d_M_isInline_12 : decode b_M_isInline 12 = .ok (.iconst 1, 1) := by decide +kernel
theorem d_M_isInline_13 : decode b_M_isInline 13 = .ok (.goto (4), 3) := by decide +kernel
theorem d_M_isInline_16 : decode b_M_isInline 16 = .ok (.iconst 0, 1) := by decide +kernel
theorem d_M_isInline_17 : decode b_M_isInline 17 = .ok (.ireturn, 1) := by decide +kernel
theorem d_M_mayHold_0 : decode b_M_mayHold 0 = .ok (.iload_n 0, 1) := by decide +kernel
theorem d_M_mayHold_1 : decode b_M_mayHold 1 = .ok (.tableswitch (117) (0) (11) #[100, 100, 117, 105, 63, 68, 68, 80, 100, 117, 117, 63], 63) := by decide +kernel
theorem d_M_mayHold_64 : decode b_M_mayHold 64 = .ok (.iload_n 1, 1) := by decide +kernel
theorem d_M_mayHold_65 : decode b_M_mayHold 65 = .ok (.invokestatic 125, 3) := by decide +kernel
theorem d_M_mayHold_68 : decode b_M_mayHold 68 = .ok (.ireturn, 1) := by decide +kernel
theorem d_M_mayHold_69 : decode b_M_mayHold 69 = .ok (.iload_n 1, 1) := by decide +kernel
theorem d_M_mayHold_70 : decode b_M_mayHold 70 = .ok (.bipush (7), 2) := by decide +kernel
theorem d_M_mayHold_72 : decode b_M_mayHold 72 = .ok (.if_icmp .ne (7), 3) := by decide +kernel
theorem d_M_mayHold_75 : decode b_M_mayHold 75 = .ok (.iconst 1, 1) := by decide +kernel
theorem d_M_mayHold_76 : decode b_M_mayHold 76 = .ok (.goto (4), 3) := by decide +kernel
theorem d_M_mayHold_79 : decode b_M_mayHold 79 = .ok (.iconst 0, 1) := by decide +kernel
theorem d_M_mayHold_80 : decode b_M_mayHold 80 = .ok (.ireturn, 1) := by decide +kernel
theorem d_M_mayHold_81 : decode b_M_mayHold 81 = .ok (.iload_n 1, 1) := by decide +kernel
theorem d_M_mayHold_82 : decode b_M_mayHold 82 = .ok (.invokestatic 125, 3) := by decide +kernel
theorem d_M_mayHold_85 : decode b_M_mayHold 85 = .ok (.ifCond .ne (10), 3) := by decide +kernel
theorem d_M_mayHold_88 : decode b_M_mayHold 88 = .ok (.iload_n 1, 1) := by decide +kernel
theorem d_M_mayHold_89 : decode b_M_mayHold 89 = .ok (.invokestatic 129, 3) := by decide +kernel
theorem d_M_mayHold_92 : decode b_M_mayHold 92 = .ok (.ifCond .eq (7), 3) := by decide +kernel
theorem d_M_mayHold_95 : decode b_M_mayHold 95 = .ok (.iconst 1, 1) := by decide +kernel
theorem d_M_mayHold_96 : decode b_M_mayHold 96 = .ok (.goto (4), 3) := by decide +kernel
theorem d_M_mayHold_99 : decode b_M_mayHold 99 = .ok (.iconst 0, 1) := by decide +kernel
theorem d_M_mayHold_100 : decode b_M_mayHold 100 = .ok (.ireturn, 1) := by decide +kernel
theorem d_M_mayHold_101 : decode b_M_mayHold 101 = .ok (.iload_n 1, 1) := by decide +kernel
theorem d_M_mayHold_102 : decode b_M_mayHold 102 = .ok (.invokestatic 129, 3) := by decide +kernel
theorem d_M_mayHold_105 : decode b_M_mayHold 105 = .ok (.ireturn, 1) := by decide +kernel
theorem d_M_mayHold_106 : decode b_M_mayHold 106 = .ok (.iload_n 1, 1) := by decide +kernel
theorem d_M_mayHold_107 : decode b_M_mayHold 107 = .ok (.bipush (10), 2) := by decide +kernel
theorem d_M_mayHold_109 : decode b_M_mayHold 109 = .ok (.if_icmp .ne (7), 3) := by decide +kernel
theorem d_M_mayHold_112 : decode b_M_mayHold 112 = .ok (.iconst 1, 1) := by decide +kernel
theorem d_M_mayHold_113 : decode b_M_mayHold 113 = .ok (.goto (4), 3) := by decide +kernel
theorem d_M_mayHold_116 : decode b_M_mayHold 116 = .ok (.iconst 0, 1) := by decide +kernel
theorem d_M_mayHold_117 : decode b_M_mayHold 117 = .ok (.ireturn, 1) := by decide +kernel
theorem d_M_mayHold_118 : decode b_M_mayHold 118 = .ok (.iconst 0, 1) := by decide +kernel
theorem d_M_mayHold_119 : decode b_M_mayHold 119 = .ok (.ireturn, 1) := by decide +kernel
theorem d_M_isFull_0 : decode b_M_isFull 0 = .ok (.aload_n 0, 1) := by decide +kernel
theorem d_M_isFull_1 : decode b_M_isFull 1 = .ok (.getfield 101, 3) := by decide +kernel
theorem d_M_isFull_4 : decode b_M_isFull 4 = .ok (.sipush (300), 3) := by decide +kernel
theorem d_M_isFull_7 : decode b_M_isFull 7 = .ok (.if_icmp .eq (17), 3) := by decide +kernel
theorem d_M_isFull_10 : decode b_M_isFull 10 = .ok (.aload_n 0, 1) := by decide +kernel
theorem d_M_isFull_11 : decode b_M_isFull 11 = .ok (.getfield 19, 3) := by decide +kernel
theorem d_M_isFull_14 : decode b_M_isFull 14 = .ok (.aload_n 0, 1) := by decide +kernel
theorem d_M_isFull_15 : decode b_M_isFull 15 = .ok (.getfield 107, 3) := by decide +kernel
theorem d_M_isFull_18 : decode b_M_isFull 18 = .ok (.iaload, 1) := by decide +kernel
theorem d_M_isFull_19 : decode b_M_isFull 19 = .ok (.bipush (12), 2) := by decide +kernel
theorem d_M_isFull_21 : decode b_M_isFull 21 = .ok (.if_icmp .ne (7), 3) := by decide +kernel
theorem d_M_isFull_24 : decode b_M_isFull 24 = .ok (.iconst 1, 1) := by decide +kernel
theorem d_M_isFull_25 : decode b_M_isFull 25 = .ok (.goto (4), 3) := by decide +kernel
theorem d_M_isFull_28 : decode b_M_isFull 28 = .ok (.iconst 0, 1) := by decide +kernel
theorem d_M_isFull_29 : decode b_M_isFull 29 = .ok (.ireturn, 1) := by decide +kernel
theorem d_M_add_0 : decode b_M_add 0 = .ok (.aload_n 0, 1) := by decide +kernel
theorem d_M_add_1 : decode b_M_add 1 = .ok (.getfield 101, 3) := by decide +kernel
theorem d_M_add_4 : decode b_M_add 4 = .ok (.istore_n 3, 1) := by decide +kernel
theorem d_M_add_5 : decode b_M_add 5 = .ok (.aload_n 0, 1) := by decide +kernel
theorem d_M_add_6 : decode b_M_add 6 = .ok (.getfield 7, 3) := by decide +kernel
theorem d_M_add_9 : decode b_M_add 9 = .ok (.iload_n 3, 1) := by decide +kernel
theorem d_M_add_10 : decode b_M_add 10 = .ok (.iload_n 1, 1) := by decide +kernel
theorem d_M_add_11 : decode b_M_add 11 = .ok (.iastore, 1) := by decide +kernel
theorem d_M_add_12 : decode b_M_add 12 = .ok (.aload_n 0, 1) := by decide +kernel
theorem d_M_add_13 : decode b_M_add 13 = .ok (.getfield 13, 3) := by decide +kernel
theorem d_M_add_16 : decode b_M_add 16 = .ok (.iload_n 3, 1) := by decide +kernel
theorem d_M_add_17 : decode b_M_add 17 = .ok (.aload_n 0, 1) := by decide +kernel
theorem d_M_add_18 : decode b_M_add 18 = .ok (.getfield 107, 3) := by decide +kernel
theorem d_M_add_21 : decode b_M_add 21 = .ok (.iastore, 1) := by decide +kernel
theorem d_M_add_22 : decode b_M_add 22 = .ok (.aload_n 0, 1) := by decide +kernel
theorem d_M_add_23 : decode b_M_add 23 = .ok (.getfield 16, 3) := by decide +kernel
theorem d_M_add_26 : decode b_M_add 26 = .ok (.iload_n 3, 1) := by decide +kernel
theorem d_M_add_27 : decode b_M_add 27 = .ok (.iload_n 2, 1) := by decide +kernel
theorem d_M_add_28 : decode b_M_add 28 = .ok (.iastore, 1) := by decide +kernel
theorem d_M_add_29 : decode b_M_add 29 = .ok (.aload_n 0, 1) := by decide +kernel
theorem d_M_add_30 : decode b_M_add 30 = .ok (.getfield 19, 3) := by decide +kernel
theorem d_M_add_33 : decode b_M_add 33 = .ok (.iload_n 3, 1) := by decide +kernel
theorem d_M_add_34 : decode b_M_add 34 = .ok (.aload_n 0, 1) := by decide +kernel
theorem d_M_add_35 : decode b_M_add 35 = .ok (.getfield 19, 3) := by decide +kernel
theorem d_M_add_38 : decode b_M_add 38 = .ok (.aload_n 0, 1) := by decide +kernel
theorem d_M_add_39 : decode b_M_add 39 = .ok (.getfield 107, 3) := by decide +kernel
theorem d_M_add_42 : decode b_M_add 42 = .ok (.iaload, 1) := by decide +kernel
theorem d_M_add_43 : decode b_M_add 43 = .ok (.iconst 1, 1) := by decide +kernel
theorem d_M_add_44 : decode b_M_add 44 = .ok (.iadd, 1) := by decide +kernel
theorem d_M_add_45 : decode b_M_add 45 = .ok (.iastore, 1) := by decide +kernel
theorem d_M_add_46 : decode b_M_add 46 = .ok (.aload_n 0, 1) := by decide +kernel
theorem d_M_add_47 : decode b_M_add 47 = .ok (.getfield 22, 3) := by decide +kernel
theorem d_M_add_50 : decode b_M_add 50 = .ok (.iload_n 3, 1) := by decide +kernel
theorem d_M_add_51 : decode b_M_add 51 = .ok (.aload_n 0, 1) := by decide +kernel
theorem d_M_add_52 : decode b_M_add 52 = .ok (.getfield 104, 3) := by decide +kernel
theorem d_M_add_55 : decode b_M_add 55 = .ok (.iastore, 1) := by decide +kernel
theorem d_M_add_56 : decode b_M_add 56 = .ok (.aload_n 0, 1) := by decide +kernel
theorem d_M_add_57 : decode b_M_add 57 = .ok (.getfield 25, 3) := by decide +kernel
theorem d_M_add_60 : decode b_M_add 60 = .ok (.iload_n 3, 1) := by decide +kernel
theorem d_M_add_61 : decode b_M_add 61 = .ok (.iconst 0, 1) := by decide +kernel
theorem d_M_add_62 : decode b_M_add 62 = .ok (.iastore, 1) := by decide +kernel
theorem d_M_add_63 : decode b_M_add 63 = .ok (.aload_n 0, 1) := by decide +kernel
theorem d_M_add_64 : decode b_M_add 64 = .ok (.getfield 28, 3) := by decide +kernel
theorem d_M_add_67 : decode b_M_add 67 = .ok (.iload_n 3, 1) := by decide +kernel
theorem d_M_add_68 : decode b_M_add 68 = .ok (.iconst (-1), 1) := by decide +kernel
theorem d_M_add_69 : decode b_M_add 69 = .ok (.iastore, 1) := by decide +kernel
theorem d_M_add_70 : decode b_M_add 70 = .ok (.aload_n 0, 1) := by decide +kernel
theorem d_M_add_71 : decode b_M_add 71 = .ok (.getfield 28, 3) := by decide +kernel
theorem d_M_add_74 : decode b_M_add 74 = .ok (.aload_n 0, 1) := by decide +kernel
theorem d_M_add_75 : decode b_M_add 75 = .ok (.getfield 107, 3) := by decide +kernel
theorem d_M_add_78 : decode b_M_add 78 = .ok (.iload_n 3, 1) := by decide +kernel
theorem d_M_add_79 : decode b_M_add 79 = .ok (.iastore, 1) := by decide +kernel
theorem d_M_add_80 : decode b_M_add 80 = .ok (.aload_n 0, 1) := by decide +kernel
theorem d_M_add_81 : decode b_M_add 81 = .ok (.dup, 1) := by decide +kernel
theorem d_M_add_82 : decode b_M_add 82 = .ok (.getfield 101, 3) := by decide +kernel
theorem d_M_add_85 : decode b_M_add 85 = .ok (.iconst 1, 1) := by decide +kernel
theorem d_M_add_86 : decode b_M_add 86 = .ok (.iadd, 1) := by decide +kernel
theorem d_M_add_87 : decode b_M_add 87 = .ok (.putfield 101, 3) := by decide +kernel
theorem d_M_add_90 : decode b_M_add 90 = .ok (.iload_n 3, 1) := by decide +kernel
theorem d_M_add_91 : decode b_M_add 91 = .ok (.ireturn, 1) := by decide +kernel
theorem d_M_begin_0 : decode b_M_begin 0 = .ok (.iload_n 1, 1) := by decide +kernel
theorem d_M_begin_1 : decode b_M_begin 1 = .ok (.ifCond .lt (61), 3) := by decide +kernel
theorem d_M_begin_4 : decode b_M_begin 4 = .ok (.iload_n 1, 1) := by decide +kernel
theorem d_M_begin_5 : decode b_M_begin 5 = .ok (.bipush (9), 2) := by decide +kernel
theorem d_M_begin_7 : decode b_M_begin 7 = .ok (.if_icmp .gt (55), 3) := by decide +kernel
theorem d_M_begin_10 : decode b_M_begin 10 = .ok (.aload_n 0, 1) := by decide +kernel
theorem d_M_begin_11 : decode b_M_begin 11 = .ok (.getfield 7, 3) := by decide +kernel
theorem d_M_begin_14 : decode b_M_begin 14 = .ok (.aload_n 0, 1) := by decide +kernel
theorem d_M_begin_15 : decode b_M_begin 15 = .ok (.getfield 107, 3) := by decide +kernel
theorem d_M_begin_18 : decode b_M_begin 18 = .ok (.iaload, 1) := by decide +kernel
theorem d_M_begin_19 : decode b_M_begin 19 = .ok (.iload_n 1, 1) := by decide +kernel
theorem d_M_begin_20 : decode b_M_begin 20 = .ok (.invokestatic 132, 3) := by decide +kernel
theorem d_M_begin_23 : decode b_M_begin 23 = .ok (.ifCond .eq (39), 3) := by decide +kernel
theorem d_M_begin_26 : decode b_M_begin 26 = .ok (.iload_n 1, 1) := by decide +kernel
theorem d_M_begin_27 : decode b_M_begin 27 = .ok (.iconst 1, 1) := by decide +kernel
theorem d_M_begin_28 : decode b_M_begin 28 = .ok (.if_icmp .ne (14), 3) := by decide +kernel
theorem d_M_begin_31 : decode b_M_begin 31 = .ok (.iload_n 2, 1) := by decide +kernel
theorem d_M_begin_32 : decode b_M_begin 32 = .ok (.iconst 1, 1) := by decide +kernel
theorem d_M_begin_33 : decode b_M_begin 33 = .ok (.if_icmp .lt (29), 3) := by decide +kernel
theorem d_M_begin_36 : decode b_M_begin 36 = .ok (.iload_n 2, 1) := by decide +kernel
theorem d_M_begin_37 : decode b_M_begin 37 = .ok (.bipush (6), 2) := by decide +kernel
theorem d_M_begin_39 : decode b_M_begin 39 = .ok (.if_icmp .gt (23), 3) := by decide +kernel
theorem d_M_begin_42 : decode b_M_begin 42 = .ok (.iload_n 1, 1) := by decide +kernel
theorem d_M_begin_43 : decode b_M_begin 43 = .ok (.bipush (6), 2) := by decide +kernel
theorem d_M_begin_45 : decode b_M_begin 45 = .ok (.if_icmp .ne (13), 3) := by decide +kernel
theorem d_M_begin_48 : decode b_M_begin 48 = .ok (.iload_n 2, 1) := by decide +kernel
theorem d_M_begin_49 : decode b_M_begin 49 = .ok (.ifCond .lt (13), 3) := by decide +kernel
theorem d_M_begin_52 : decode b_M_begin 52 = .ok (.iload_n 2, 1) := by decide +kernel
theorem d_M_begin_53 : decode b_M_begin 53 = .ok (.ldc 136, 2) := by decide +kernel
theorem d_M_begin_55 : decode b_M_begin 55 = .ok (.if_icmp .gt (7), 3) := by decide +kernel
theorem d_M_begin_58 : decode b_M_begin 58 = .ok (.iconst 1, 1) := by decide +kernel
theorem d_M_begin_59 : decode b_M_begin 59 = .ok (.goto (4), 3) := by decide +kernel
theorem d_M_begin_62 : decode b_M_begin 62 = .ok (.iconst 0, 1) := by decide +kernel
theorem d_M_begin_63 : decode b_M_begin 63 = .ok (.istore_n 3, 1) := by decide +kernel
theorem d_M_begin_64 : decode b_M_begin 64 = .ok (.aload_n 0, 1) := by decide +kernel
theorem d_M_begin_65 : decode b_M_begin 65 = .ok (.aload_n 0, 1) := by decide +kernel
theorem d_M_begin_66 : decode b_M_begin 66 = .ok (.invokevirtual 137, 3) := by decide +kernel
theorem d_M_begin_69 : decode b_M_begin 69 = .ok (.ifCond .eq (7), 3) := by decide +kernel
theorem d_M_begin_72 : decode b_M_begin 72 = .ok (.iconst 1, 1) := by decide +kernel
theorem d_M_begin_73 : decode b_M_begin 73 = .ok (.goto (12), 3) := by decide +kernel
theorem d_M_begin_76 : decode b_M_begin 76 = .ok (.iload_n 3, 1) := by decide +kernel
theorem d_M_begin_77 : decode b_M_begin 77 = .ok (.ifCond .eq (7), 3) := by decide +kernel
theorem d_M_begin_80 : decode b_M_begin 80 = .ok (.iconst 0, 1) := by decide +kernel
theorem d_M_begin_81 : decode b_M_begin 81 = .ok (.goto (4), 3) := by decide +kernel
theorem d_M_begin_84 : decode b_M_begin 84 = .ok (.iconst 2, 1) := by decide +kernel
theorem d_M_begin_85 : decode b_M_begin 85 = .ok (.putfield 97, 3) := by decide +kernel
theorem d_M_begin_88 : decode b_M_begin 88 = .ok (.aload_n 0, 1) := by decide +kernel
theorem d_M_begin_89 : decode b_M_begin 89 = .ok (.getfield 97, 3) := by decide +kernel
theorem d_M_begin_92 : decode b_M_begin 92 = .ok (.ifCond .le (5), 3) := by decide +kernel
theorem d_M_begin_95 : decode b_M_begin 95 = .ok (.iconst 0, 1) := by decide +kernel
theorem d_M_begin_96 : decode b_M_begin 96 = .ok (.ireturn, 1) := by decide +kernel
theorem d_M_begin_97 : decode b_M_begin 97 = .ok (.aload_n 0, 1) := by decide +kernel
theorem d_M_begin_98 : decode b_M_begin 98 = .ok (.iload_n 1, 1) := by decide +kernel
theorem d_M_begin_99 : decode b_M_begin 99 = .ok (.iload_n 1, 1) := by decide +kernel
theorem d_M_begin_100 : decode b_M_begin 100 = .ok (.iconst 1, 1) := by decide +kernel
theorem d_M_begin_101 : decode b_M_begin 101 = .ok (.if_icmp .eq (9), 3) := by decide +kernel
theorem d_M_begin_104 : decode b_M_begin 104 = .ok (.iload_n 1, 1) := by decide +kernel
theorem d_M_begin_105 : decode b_M_begin 105 = .ok (.bipush (6), 2) := by decide +kernel
theorem d_M_begin_107 : decode b_M_begin 107 = .ok (.if_icmp .ne (7), 3) := by decide +kernel
theorem d_M_begin_110 : decode b_M_begin 110 = .ok (.iload_n 2, 1) := by decide +kernel
theorem d_M_begin_111 : decode b_M_begin 111 = .ok (.goto (4), 3) := by decide +kernel
theorem d_M_begin_114 : decode b_M_begin 114 = .ok (.iconst 0, 1) := by decide +kernel
theorem d_M_begin_115 : decode b_M_begin 115 = .ok (.invokevirtual 141, 3) := by decide +kernel
theorem d_M_begin_118 : decode b_M_begin 118 = .ok (.istore 4, 2) := by decide +kernel
theorem d_M_begin_120 : decode b_M_begin 120 = .ok (.iload_n 1, 1) := by decide +kernel
theorem d_M_begin_121 : decode b_M_begin 121 = .ok (.iconst 2, 1) := by decide +kernel
theorem d_M_begin_122 : decode b_M_begin 122 = .ok (.if_icmp .eq (15), 3) := by decide +kernel
theorem d_M_begin_125 : decode b_M_begin 125 = .ok (.iload_n 1, 1) := by decide +kernel
theorem d_M_begin_126 : decode b_M_begin 126 = .ok (.bipush (9), 2) := by decide +kernel
theorem d_M_begin_128 : decode b_M_begin 128 = .ok (.if_icmp .eq (9), 3) := by decide +kernel
theorem d_M_begin_131 : decode b_M_begin 131 = .ok (.aload_n 0, 1) := by decide +kernel
theorem d_M_begin_132 : decode b_M_begin 132 = .ok (.iload 4, 2) := by decide +kernel
theorem d_M_begin_134 : decode b_M_begin 134 = .ok (.putfield 107, 3) := by decide +kernel
theorem d_M_begin_137 : decode b_M_begin 137 = .ok (.iload 4, 2) := by decide +kernel
theorem d_M_begin_139 : decode b_M_begin 139 = .ok (.ireturn, 1) := by decide +kernel
theorem d_M_end_0 : decode b_M_end 0 = .ok (.aload_n 0, 1) := by decide +kernel
theorem d_M_end_1 : decode b_M_end 1 = .ok (.iconst 0, 1) := by decide +kernel
theorem d_M_end_2 : decode b_M_end 2 = .ok (.putfield 97, 3) := by decide +kernel
theorem d_M_end_5 : decode b_M_end 5 = .ok (.aload_n 0, 1) := by decide +kernel
theorem d_M_end_6 : decode b_M_end 6 = .ok (.getfield 107, 3) := by decide +kernel
theorem d_M_end_9 : decode b_M_end 9 = .ok (.ifCond .ne (5), 3) := by decide +kernel
theorem d_M_end_12 : decode b_M_end 12 = .ok (.iconst (-1), 1) := by decide +kernel
theorem d_M_end_13 : decode b_M_end 13 = .ok (.ireturn, 1) := by decide +kernel
theorem d_M_end_14 : decode b_M_end 14 = .ok (.aload_n 0, 1) := by decide +kernel
theorem d_M_end_15 : decode b_M_end 15 = .ok (.aload_n 0, 1) := by decide +kernel
theorem d_M_end_16 : decode b_M_end 16 = .ok (.getfield 13, 3) := by decide +kernel
theorem d_M_end_19 : decode b_M_end 19 = .ok (.aload_n 0, 1) := by decide +kernel
theorem d_M_end_20 : decode b_M_end 20 = .ok (.getfield 107, 3) := by decide +kernel
theorem d_M_end_23 : decode b_M_end 23 = .ok (.iaload, 1) := by decide +kernel
theorem d_M_end_24 : decode b_M_end 24 = .ok (.putfield 107, 3) := by decide +kernel
theorem d_M_end_27 : decode b_M_end 27 = .ok (.aload_n 0, 1) := by decide +kernel
theorem d_M_end_28 : decode b_M_end 28 = .ok (.getfield 107, 3) := by decide +kernel
theorem d_M_end_31 : decode b_M_end 31 = .ok (.ireturn, 1) := by decide +kernel
theorem d_M_say_0 : decode b_M_say 0 = .ok (.aload_n 0, 1) := by decide +kernel
theorem d_M_say_1 : decode b_M_say 1 = .ok (.getfield 28, 3) := by decide +kernel
theorem d_M_say_4 : decode b_M_say 4 = .ok (.aload_n 0, 1) := by decide +kernel
theorem d_M_say_5 : decode b_M_say 5 = .ok (.getfield 107, 3) := by decide +kernel
theorem d_M_say_8 : decode b_M_say 8 = .ok (.iaload, 1) := by decide +kernel
theorem d_M_say_9 : decode b_M_say 9 = .ok (.iconst (-1), 1) := by decide +kernel
theorem d_M_say_10 : decode b_M_say 10 = .ok (.if_icmp .eq (22), 3) := by decide +kernel
theorem d_M_say_13 : decode b_M_say 13 = .ok (.aload_n 0, 1) := by decide +kernel
theorem d_M_say_14 : decode b_M_say 14 = .ok (.getfield 7, 3) := by decide +kernel
theorem d_M_say_17 : decode b_M_say 17 = .ok (.aload_n 0, 1) := by decide +kernel
theorem d_M_say_18 : decode b_M_say 18 = .ok (.getfield 28, 3) := by decide +kernel
theorem d_M_say_21 : decode b_M_say 21 = .ok (.aload_n 0, 1) := by decide +kernel
theorem d_M_say_22 : decode b_M_say 22 = .ok (.getfield 107, 3) := by decide +kernel
theorem d_M_say_25 : decode b_M_say 25 = .ok (.iaload, 1) := by decide +kernel
theorem d_M_say_26 : decode b_M_say 26 = .ok (.iaload, 1) := by decide +kernel
theorem d_M_say_27 : decode b_M_say 27 = .ok (.bipush (10), 2) := by decide +kernel
theorem d_M_say_29 : decode b_M_say 29 = .ok (.if_icmp .eq (7), 3) := by decide +kernel
theorem d_M_say_32 : decode b_M_say 32 = .ok (.iconst 1, 1) := by decide +kernel
theorem d_M_say_33 : decode b_M_say 33 = .ok (.goto (4), 3) := by decide +kernel
theorem d_M_say_36 : decode b_M_say 36 = .ok (.iconst 0, 1) := by decide +kernel
theorem d_M_say_37 : decode b_M_say 37 = .ok (.istore 6, 2) := by decide +kernel
theorem d_M_say_39 : decode b_M_say 39 = .ok (.aload_n 0, 1) := by decide +kernel
theorem d_M_say_40 : decode b_M_say 40 = .ok (.iload 5, 2) := by decide +kernel
theorem d_M_say_42 : decode b_M_say 42 = .ok (.iconst 1, 1) := by decide +kernel
theorem d_M_say_43 : decode b_M_say 43 = .ok (.if_icmp .lt (26), 3) := by decide +kernel
theorem d_M_say_46 : decode b_M_say 46 = .ok (.iload 5, 2) := by decide +kernel
theorem d_M_say_48 : decode b_M_say 48 = .ok (.iconst 4, 1) := by decide +kernel
theorem d_M_say_49 : decode b_M_say 49 = .ok (.if_icmp .gt (20), 3) := by decide +kernel
theorem d_M_say_52 : decode b_M_say 52 = .ok (.aload_n 0, 1) := by decide +kernel
theorem d_M_say_53 : decode b_M_say 53 = .ok (.getfield 7, 3) := by decide +kernel
theorem d_M_say_56 : decode b_M_say 56 = .ok (.aload_n 0, 1) := by decide +kernel
theorem d_M_say_57 : decode b_M_say 57 = .ok (.getfield 107, 3) := by decide +kernel
theorem d_M_say_60 : decode b_M_say 60 = .ok (.iaload, 1) := by decide +kernel
theorem d_M_say_61 : decode b_M_say 61 = .ok (.bipush (10), 2) := by decide +kernel
theorem d_M_say_63 : decode b_M_say 63 = .ok (.invokestatic 132, 3) := by decide +kernel
theorem d_M_say_66 : decode b_M_say 66 = .ok (.ifCond .ne (7), 3) := by decide +kernel
theorem d_M_say_69 : decode b_M_say 69 = .ok (.iconst 1, 1) := by decide +kernel
theorem d_M_say_70 : decode b_M_say 70 = .ok (.goto (33), 3) := by decide +kernel
theorem d_M_say_73 : decode b_M_say 73 = .ok (.aload_n 0, 1) := by decide +kernel
theorem d_M_say_74 : decode b_M_say 74 = .ok (.getfield 104, 3) := by decide +kernel
theorem d_M_say_77 : decode b_M_say 77 = .ok (.iload 5, 2) := by decide +kernel
theorem d_M_say_79 : decode b_M_say 79 = .ok (.iadd, 1) := by decide +kernel
theorem d_M_say_80 : decode b_M_say 80 = .ok (.sipush (4000), 3) := by decide +kernel
theorem d_M_say_83 : decode b_M_say 83 = .ok (.if_icmp .gt (15), 3) := by decide +kernel
theorem d_M_say_86 : decode b_M_say 86 = .ok (.iload 6, 2) := by decide +kernel
theorem d_M_say_88 : decode b_M_say 88 = .ok (.ifCond .eq (14), 3) := by decide +kernel
theorem d_M_say_91 : decode b_M_say 91 = .ok (.aload_n 0, 1) := by decide +kernel
theorem d_M_say_92 : decode b_M_say 92 = .ok (.invokevirtual 137, 3) := by decide +kernel
theorem d_M_say_95 : decode b_M_say 95 = .ok (.ifCond .eq (7), 3) := by decide +kernel
theorem d_M_say_98 : decode b_M_say 98 = .ok (.iconst 2, 1) := by decide +kernel
theorem d_M_say_99 : decode b_M_say 99 = .ok (.goto (4), 3) := by decide +kernel
theorem d_M_say_102 : decode b_M_say 102 = .ok (.iconst 0, 1) := by decide +kernel
theorem d_M_say_103 : decode b_M_say 103 = .ok (.putfield 97, 3) := by decide +kernel
theorem d_M_say_106 : decode b_M_say 106 = .ok (.aload_n 0, 1) := by decide +kernel
theorem d_M_say_107 : decode b_M_say 107 = .ok (.getfield 97, 3) := by decide +kernel
theorem d_M_say_110 : decode b_M_say 110 = .ok (.ifCond .le (5), 3) := by decide +kernel
theorem d_M_say_113 : decode b_M_say 113 = .ok (.iconst 0, 1) := by decide +kernel
theorem d_M_say_114 : decode b_M_say 114 = .ok (.ireturn, 1) := by decide +kernel
theorem d_M_say_115 : decode b_M_say 115 = .ok (.iload 6, 2) := by decide +kernel
theorem d_M_say_117 : decode b_M_say 117 = .ok (.ifCond .eq (13), 3) := by decide +kernel
theorem d_M_say_120 : decode b_M_say 120 = .ok (.aload_n 0, 1) := by decide +kernel
theorem d_M_say_121 : decode b_M_say 121 = .ok (.bipush (10), 2) := by decide +kernel
theorem d_M_say_123 : decode b_M_say 123 = .ok (.iconst 0, 1) := by decide +kernel
theorem d_M_say_124 : decode b_M_say 124 = .ok (.invokevirtual 141, 3) := by decide +kernel
theorem d_M_say_127 : decode b_M_say 127 = .ok (.goto (12), 3) := by decide +kernel
theorem d_M_say_130 : decode b_M_say 130 = .ok (.aload_n 0, 1) := by decide +kernel
theorem d_M_say_131 : decode b_M_say 131 = .ok (.getfield 28, 3) := by decide +kernel
theorem d_M_say_134 : decode b_M_say 134 = .ok (.aload_n 0, 1) := by decide +kernel
theorem d_M_say_135 : decode b_M_say 135 = .ok (.getfield 107, 3) := by decide +kernel
theorem d_M_say_138 : decode b_M_say 138 = .ok (.iaload, 1) := by decide +kernel
theorem d_M_say_139 : decode b_M_say 139 = .ok (.istore 7, 2) := by decide +kernel
theorem d_M_say_141 : decode b_M_say 141 = .ok (.iconst 0, 1) := by decide +kernel
theorem d_M_say_142 : decode b_M_say 142 = .ok (.istore 8, 2) := by decide +kernel
theorem d_M_say_144 : decode b_M_say 144 = .ok (.iload 8, 2) := by decide +kernel
theorem d_M_say_146 : decode b_M_say 146 = .ok (.iload 5, 2) := by decide +kernel
theorem d_M_say_148 : decode b_M_say 148 = .ok (.if_icmp .ge (60), 3) := by decide +kernel
theorem d_M_say_151 : decode b_M_say 151 = .ok (.aload_n 0, 1) := by decide +kernel
theorem d_M_say_152 : decode b_M_say 152 = .ok (.getfield 31, 3) := by decide +kernel
theorem d_M_say_155 : decode b_M_say 155 = .ok (.aload_n 0, 1) := by decide +kernel
theorem d_M_say_156 : decode b_M_say 156 = .ok (.getfield 104, 3) := by decide +kernel
theorem d_M_say_159 : decode b_M_say 159 = .ok (.iload 8, 2) := by decide +kernel
theorem d_M_say_161 : decode b_M_say 161 = .ok (.ifCond .ne (7), 3) := by decide +kernel
theorem d_M_say_164 : decode b_M_say 164 = .ok (.iload_n 1, 1) := by decide +kernel
theorem d_M_say_165 : decode b_M_say 165 = .ok (.goto (25), 3) := by decide +kernel
theorem d_M_say_168 : decode b_M_say 168 = .ok (.iload 8, 2) := by decide +kernel
theorem d_M_say_170 : decode b_M_say 170 = .ok (.iconst 1, 1) := by decide +kernel
theorem d_M_say_171 : decode b_M_say 171 = .ok (.if_icmp .ne (7), 3) := by decide +kernel
theorem d_M_say_174 : decode b_M_say 174 = .ok (.iload_n 2, 1) := by decide +kernel
theorem d_M_say_175 : decode b_M_say 175 = .ok (.goto (15), 3) := by decide +kernel
theorem d_M_say_178 : decode b_M_say 178 = .ok (.iload 8, 2) := by decide +kernel
theorem d_M_say_180 : decode b_M_say 180 = .ok (.iconst 2, 1) := by decide +kernel
theorem d_M_say_181 : decode b_M_say 181 = .ok (.if_icmp .ne (7), 3) := by decide +kernel
theorem d_M_say_184 : decode b_M_say 184 = .ok (.iload_n 3, 1) := by decide +kernel
theorem d_M_say_185 : decode b_M_say 185 = .ok (.goto (5), 3) := by decide +kernel
theorem d_M_say_188 : decode b_M_say 188 = .ok (.iload 4, 2) := by decide +kernel
theorem d_M_say_190 : decode b_M_say 190 = .ok (.i2b, 1) := by decide +kernel
theorem d_M_say_191 : decode b_M_say 191 = .ok (.bastore, 1) := by decide +kernel
theorem d_M_say_192 : decode b_M_say 192 = .ok (.aload_n 0, 1) := by decide +kernel
theorem d_M_say_193 : decode b_M_say 193 = .ok (.dup, 1) := by decide +kernel
theorem d_M_say_194 : decode b_M_say 194 = .ok (.getfield 104, 3) := by decide +kernel
theorem d_M_say_197 : decode b_M_say 197 = .ok (.iconst 1, 1) := by decide +kernel
theorem d_M_say_198 : decode b_M_say 198 = .ok (.iadd, 1) := by decide +kernel
theorem d_M_say_199 : decode b_M_say 199 = .ok (.putfield 104, 3) := by decide +kernel
theorem d_M_say_202 : decode b_M_say 202 = .ok (.iinc 8 (1), 3) := by decide +kernel
theorem d_M_say_205 : decode b_M_say 205 = .ok (.goto (-61), 3) := by decide +kernel
theorem d_M_say_208 : decode b_M_say 208 = .ok (.aload_n 0, 1) := by decide +kernel
theorem d_M_say_209 : decode b_M_say 209 = .ok (.getfield 25, 3) := by decide +kernel
theorem d_M_say_212 : decode b_M_say 212 = .ok (.iload 7, 2) := by decide +kernel
theorem d_M_say_214 : decode b_M_say 214 = .ok (.dup2, 1) := by decide +kernel
theorem d_M_say_215 : decode b_M_say 215 = .ok (.iaload, 1) := by decide +kernel
theorem d_M_say_216 : decode b_M_say 216 = .ok (.iload 5, 2) := by decide +kernel
theorem d_M_say_218 : decode b_M_say 218 = .ok (.iadd, 1) := by decide +kernel
theorem d_M_say_219 : decode b_M_say 219 = .ok (.iastore, 1) := by decide +kernel
theorem d_M_say_220 : decode b_M_say 220 = .ok (.iload 7, 2) := by decide +kernel
theorem d_M_say_222 : decode b_M_say 222 = .ok (.ireturn, 1) := by decide +kernel
theorem d_M_clear_0 : decode b_M_clear 0 = .ok (.aload_n 0, 1) := by decide +kernel
theorem d_M_clear_1 : decode b_M_clear 1 = .ok (.iconst 0, 1) := by decide +kernel
theorem d_M_clear_2 : decode b_M_clear 2 = .ok (.putfield 97, 3) := by decide +kernel
theorem d_M_clear_5 : decode b_M_clear 5 = .ok (.aload_n 0, 1) := by decide +kernel
theorem d_M_clear_6 : decode b_M_clear 6 = .ok (.invokevirtual 94, 3) := by decide +kernel
theorem d_M_clear_9 : decode b_M_clear 9 = .ok (.return_, 1) := by decide +kernel
theorem d_M_signLength_0 : decode b_M_signLength 0 = .ok (.iload_n 0, 1) := by decide +kernel
theorem d_M_signLength_1 : decode b_M_signLength 1 = .ok (.ifCond .ge (5), 3) := by decide +kernel
theorem d_M_signLength_4 : decode b_M_signLength 4 = .ok (.iconst 2, 1) := by decide +kernel
theorem d_M_signLength_5 : decode b_M_signLength 5 = .ok (.ireturn, 1) := by decide +kernel
theorem d_M_signLength_6 : decode b_M_signLength 6 = .ok (.iconst 3, 1) := by decide +kernel
theorem d_M_signLength_7 : decode b_M_signLength 7 = .ok (.istore_n 1, 1) := by decide +kernel
theorem d_M_signLength_8 : decode b_M_signLength 8 = .ok (.iload_n 0, 1) := by decide +kernel
theorem d_M_signLength_9 : decode b_M_signLength 9 = .ok (.istore_n 2, 1) := by decide +kernel
theorem d_M_signLength_10 : decode b_M_signLength 10 = .ok (.iload_n 2, 1) := by decide +kernel
theorem d_M_signLength_11 : decode b_M_signLength 11 = .ok (.bipush (9), 2) := by decide +kernel
theorem d_M_signLength_13 : decode b_M_signLength 13 = .ok (.if_icmp .le (14), 3) := by decide +kernel
theorem d_M_signLength_16 : decode b_M_signLength 16 = .ok (.iinc 1 (1), 3) := by decide +kernel
theorem d_M_signLength_19 : decode b_M_signLength 19 = .ok (.iload_n 2, 1) := by decide +kernel
theorem d_M_signLength_20 : decode b_M_signLength 20 = .ok (.bipush (10), 2) := by decide +kernel
theorem d_M_signLength_22 : decode b_M_signLength 22 = .ok (.idiv, 1) := by decide +kernel
theorem d_M_signLength_23 : decode b_M_signLength 23 = .ok (.istore_n 2, 1) := by decide +kernel
theorem d_M_signLength_24 : decode b_M_signLength 24 = .ok (.goto (-14), 3) := by decide +kernel
theorem d_M_signLength_27 : decode b_M_signLength 27 = .ok (.iload_n 1, 1) := by decide +kernel
