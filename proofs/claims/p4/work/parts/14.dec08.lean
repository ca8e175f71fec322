theorem d_N_mayHold_1 : decode b_N_mayHold 1 = .ok (.getfield 18, 3) := by decide +kernel
theorem d_N_mayHold_4 : decode b_N_mayHold 4 = .ok (.tableswitch (103) (-1) (8) #[56, 83, 83, 103, 91, 56, 63, 63, 75, 83], 56) := by decide +kernel
theorem d_N_mayHold_60 : decode b_N_mayHold 60 = .ok (.iload_n 1, 1) := by decide +kernel
theorem d_N_mayHold_61 : decode b_N_mayHold 61 = .ok (.bipush (127), 2) := by decide +kernel
theorem d_N_mayHold_63 : decode b_N_mayHold 63 = .ok (.invokestatic 37, 3) := by decide +kernel
theorem d_N_mayHold_66 : decode b_N_mayHold 66 = .ok (.ireturn, 1) := by decide +kernel
theorem d_N_mayHold_67 : decode b_N_mayHold 67 = .ok (.iload_n 1, 1) := by decide +kernel
theorem d_N_mayHold_68 : decode b_N_mayHold 68 = .ok (.bipush (7), 2) := by decide +kernel
theorem d_N_mayHold_70 : decode b_N_mayHold 70 = .ok (.if_icmp .ne (7), 3) := by decide +kernel
theorem d_N_mayHold_73 : decode b_N_mayHold 73 = .ok (.iconst 1, 1) := by decide +kernel
theorem d_N_mayHold_74 : decode b_N_mayHold 74 = .ok (.goto (4), 3) := by decide +kernel
theorem d_N_mayHold_77 : decode b_N_mayHold 77 = .ok (.iconst 0, 1) := by decide +kernel
theorem d_N_mayHold_78 : decode b_N_mayHold 78 = .ok (.ireturn, 1) := by decide +kernel
theorem d_N_mayHold_79 : decode b_N_mayHold 79 = .ok (.iload_n 1, 1) := by decide +kernel
theorem d_N_mayHold_80 : decode b_N_mayHold 80 = .ok (.sipush (1919), 3) := by decide +kernel
theorem d_N_mayHold_83 : decode b_N_mayHold 83 = .ok (.invokestatic 37, 3) := by decide +kernel
theorem d_N_mayHold_86 : decode b_N_mayHold 86 = .ok (.ireturn, 1) := by decide +kernel
theorem d_N_mayHold_87 : decode b_N_mayHold 87 = .ok (.iload_n 1, 1) := by decide +kernel
theorem d_N_mayHold_88 : decode b_N_mayHold 88 = .ok (.sipush (1792), 3) := by decide +kernel
theorem d_N_mayHold_91 : decode b_N_mayHold 91 = .ok (.invokestatic 37, 3) := by decide +kernel
theorem d_N_mayHold_94 : decode b_N_mayHold 94 = .ok (.ireturn, 1) := by decide +kernel
theorem d_N_mayHold_95 : decode b_N_mayHold 95 = .ok (.iload_n 1, 1) := by decide +kernel
theorem d_N_mayHold_96 : decode b_N_mayHold 96 = .ok (.bipush (10), 2) := by decide +kernel
theorem d_N_mayHold_98 : decode b_N_mayHold 98 = .ok (.if_icmp .ne (7), 3) := by decide +kernel
theorem d_N_mayHold_101 : decode b_N_mayHold 101 = .ok (.iconst 1, 1) := by decide +kernel
theorem d_N_mayHold_102 : decode b_N_mayHold 102 = .ok (.goto (4), 3) := by decide +kernel
theorem d_N_mayHold_105 : decode b_N_mayHold 105 = .ok (.iconst 0, 1) := by decide +kernel
theorem d_N_mayHold_106 : decode b_N_mayHold 106 = .ok (.ireturn, 1) := by decide +kernel
theorem d_N_mayHold_107 : decode b_N_mayHold 107 = .ok (.iconst 0, 1) := by decide +kernel
theorem d_N_mayHold_108 : decode b_N_mayHold 108 = .ok (.ireturn, 1) := by decide +kernel
theorem d_N_take_0 : decode b_N_take 0 = .ok (.aload_n 0, 1) := by decide +kernel
theorem d_N_take_1 : decode b_N_take 1 = .ok (.getfield 41, 3) := by decide +kernel
theorem d_N_take_4 : decode b_N_take 4 = .ok (.ifnonnull (11), 3) := by decide +kernel
theorem d_N_take_7 : decode b_N_take 7 = .ok (.aload_n 0, 1) := by decide +kernel
theorem d_N_take_8 : decode b_N_take 8 = .ok (.aload_n 1, 1) := by decide +kernel
theorem d_N_take_9 : decode b_N_take 9 = .ok (.putfield 44, 3) := by decide +kernel
theorem d_N_take_12 : decode b_N_take 12 = .ok (.goto (11), 3) := by decide +kernel
theorem d_N_take_15 : decode b_N_take 15 = .ok (.aload_n 0, 1) := by decide +kernel
theorem d_N_take_16 : decode b_N_take 16 = .ok (.getfield 41, 3) := by decide +kernel
theorem d_N_take_19 : decode b_N_take 19 = .ok (.aload_n 1, 1) := by decide +kernel
theorem d_N_take_20 : decode b_N_take 20 = .ok (.putfield 47, 3) := by decide +kernel
theorem d_N_take_23 : decode b_N_take 23 = .ok (.aload_n 0, 1) := by decide +kernel
theorem d_N_take_24 : decode b_N_take 24 = .ok (.aload_n 1, 1) := by decide +kernel
theorem d_N_take_25 : decode b_N_take 25 = .ok (.putfield 41, 3) := by decide +kernel
theorem d_N_take_28 : decode b_N_take 28 = .ok (.return_, 1) := by decide +kernel
theorem d_N_reachTo_0 : decode b_N_reachTo 0 = .ok (.aload_n 0, 1) := by decide +kernel
theorem d_N_reachTo_1 : decode b_N_reachTo 1 = .ok (.astore_n 2, 1) := by decide +kernel
theorem d_N_reachTo_2 : decode b_N_reachTo 2 = .ok (.aload_n 2, 1) := by decide +kernel
theorem d_N_reachTo_3 : decode b_N_reachTo 3 = .ok (.ifnull (16), 3) := by decide +kernel
theorem d_N_reachTo_6 : decode b_N_reachTo 6 = .ok (.aload_n 2, 1) := by decide +kernel
theorem d_N_reachTo_7 : decode b_N_reachTo 7 = .ok (.iload_n 1, 1) := by decide +kernel
theorem d_N_reachTo_8 : decode b_N_reachTo 8 = .ok (.putfield 34, 3) := by decide +kernel
theorem d_N_reachTo_11 : decode b_N_reachTo 11 = .ok (.aload_n 2, 1) := by decide +kernel
theorem d_N_reachTo_12 : decode b_N_reachTo 12 = .ok (.getfield 24, 3) := by decide +kernel
theorem d_N_reachTo_15 : decode b_N_reachTo 15 = .ok (.astore_n 2, 1) := by decide +kernel
theorem d_N_reachTo_16 : decode b_N_reachTo 16 = .ok (.goto (-14), 3) := by decide +kernel
theorem d_N_reachTo_19 : decode b_N_reachTo 19 = .ok (.return_, 1) := by decide +kernel
theorem d_N_lastOfPart_0 : decode b_N_lastOfPart 0 = .ok (.aload_n 0, 1) := by decide +kernel
theorem d_N_lastOfPart_1 : decode b_N_lastOfPart 1 = .ok (.astore_n 1, 1) := by decide +kernel
theorem d_N_lastOfPart_2 : decode b_N_lastOfPart 2 = .ok (.aload_n 0, 1) := by decide +kernel
theorem d_N_lastOfPart_3 : decode b_N_lastOfPart 3 = .ok (.invokevirtual 50, 3) := by decide +kernel
theorem d_N_lastOfPart_6 : decode b_N_lastOfPart 6 = .ok (.ifCond .eq (28), 3) := by decide +kernel
theorem d_N_lastOfPart_9 : decode b_N_lastOfPart 9 = .ok (.aload_n 1, 1) := by decide +kernel
theorem d_N_lastOfPart_10 : decode b_N_lastOfPart 10 = .ok (.getfield 47, 3) := by decide +kernel
theorem d_N_lastOfPart_13 : decode b_N_lastOfPart 13 = .ok (.ifnull (21), 3) := by decide +kernel
theorem d_N_lastOfPart_16 : decode b_N_lastOfPart 16 = .ok (.aload_n 1, 1) := by decide +kernel
theorem d_N_lastOfPart_17 : decode b_N_lastOfPart 17 = .ok (.getfield 47, 3) := by decide +kernel
theorem d_N_lastOfPart_20 : decode b_N_lastOfPart 20 = .ok (.invokevirtual 50, 3) := by decide +kernel
theorem d_N_lastOfPart_23 : decode b_N_lastOfPart 23 = .ok (.ifCond .eq (11), 3) := by decide +kernel
theorem d_N_lastOfPart_26 : decode b_N_lastOfPart 26 = .ok (.aload_n 1, 1) := by decide +kernel
theorem d_N_lastOfPart_27 : decode b_N_lastOfPart 27 = .ok (.getfield 47, 3) := by decide +kernel
theorem d_N_lastOfPart_30 : decode b_N_lastOfPart 30 = .ok (.astore_n 1, 1) := by decide +kernel
theorem d_N_lastOfPart_31 : decode b_N_lastOfPart 31 = .ok (.goto (-29), 3) := by decide +kernel
theorem d_N_lastOfPart_34 : decode b_N_lastOfPart 34 = .ok (.aload_n 1, 1) := by decide +kernel
theorem d_N_lastOfPart_35 : decode b_N_lastOfPart 35 = .ok (.areturn, 1) := by decide +kernel
theorem d_R_init_0 : decode b_R_init 0 = .ok (.aload_n 0, 1) := by decide +kernel
theorem d_R_init_1 : decode b_R_init 1 = .ok (.invokespecial 3, 3) := by decide +kernel
theorem d_R_init_4 : decode b_R_init 4 = .ok (.aload_n 0, 1) := by decide +kernel
theorem d_R_init_5 : decode b_R_init 5 = .ok (.bipush (16), 2) := by decide +kernel
theorem d_R_init_7 : decode b_R_init 7 = .ok (.newarray .int, 2) := by decide +kernel
theorem d_R_init_9 : decode b_R_init 9 = .ok (.putfield 9, 3) := by decide +kernel
theorem d_R_init_12 : decode b_R_init 12 = .ok (.return_, 1) := by decide +kernel
theorem d_R_size_0 : decode b_R_size 0 = .ok (.aload_n 0, 1) := by decide +kernel
theorem d_R_size_1 : decode b_R_size 1 = .ok (.getfield 15, 3) := by decide +kernel
theorem d_R_size_4 : decode b_R_size 4 = .ok (.ireturn, 1) := by decide +kernel
theorem d_R_get_0 : decode b_R_get 0 = .ok (.iload_n 1, 1) := by decide +kernel
theorem d_R_get_1 : decode b_R_get 1 = .ok (.ifCond .lt (29), 3) := by decide +kernel
theorem d_R_get_4 : decode b_R_get 4 = .ok (.iload_n 1, 1) := by decide +kernel
theorem d_R_get_5 : decode b_R_get 5 = .ok (.aload_n 0, 1) := by decide +kernel
theorem d_R_get_6 : decode b_R_get 6 = .ok (.getfield 15, 3) := by decide +kernel
theorem d_R_get_9 : decode b_R_get 9 = .ok (.if_icmp .ge (21), 3) := by decide +kernel
theorem d_R_get_12 : decode b_R_get 12 = .ok (.iload_n 1, 1) := by decide +kernel
theorem d_R_get_13 : decode b_R_get 13 = .ok (.aload_n 0, 1) := by decide +kernel
theorem d_R_get_14 : decode b_R_get 14 = .ok (.getfield 9, 3) := by decide +kernel
theorem d_R_get_17 : decode b_R_get 17 = .ok (.arraylength, 1) := by decide +kernel
theorem d_R_get_18 : decode b_R_get 18 = .ok (.if_icmp .ge (12), 3) := by decide +kernel
theorem d_R_get_21 : decode b_R_get 21 = .ok (.aload_n 0, 1) := by decide +kernel
theorem d_R_get_22 : decode b_R_get 22 = .ok (.getfield 9, 3) := by decide +kernel
theorem d_R_get_25 : decode b_R_get 25 = .ok (.iload_n 1, 1) := by decide +kernel
theorem d_R_get_26 : decode b_R_get 26 = .ok (.iaload, 1) := by decide +kernel
theorem d_R_get_27 : decode b_R_get 27 = .ok (.goto (4), 3) := by decide +kernel
theorem d_R_get_30 : decode b_R_get 30 = .ok (.iconst (-1), 1) := by decide +kernel
theorem d_R_get_31 : decode b_R_get 31 = .ok (.ireturn, 1) := by decide +kernel
theorem d_R_set_0 : decode b_R_set 0 = .ok (.iload_n 1, 1) := by decide +kernel
theorem d_R_set_1 : decode b_R_set 1 = .ok (.ifCond .lt (27), 3) := by decide +kernel
theorem d_R_set_4 : decode b_R_set 4 = .ok (.iload_n 1, 1) := by decide +kernel
theorem d_R_set_5 : decode b_R_set 5 = .ok (.aload_n 0, 1) := by decide +kernel
theorem d_R_set_6 : decode b_R_set 6 = .ok (.getfield 15, 3) := by decide +kernel
theorem d_R_set_9 : decode b_R_set 9 = .ok (.if_icmp .ge (19), 3) := by decide +kernel
theorem d_R_set_12 : decode b_R_set 12 = .ok (.iload_n 1, 1) := by decide +kernel
theorem d_R_set_13 : decode b_R_set 13 = .ok (.aload_n 0, 1) := by decide +kernel
theorem d_R_set_14 : decode b_R_set 14 = .ok (.getfield 9, 3) := by decide +kernel
theorem d_R_set_17 : decode b_R_set 17 = .ok (.arraylength, 1) := by decide +kernel
theorem d_R_set_18 : decode b_R_set 18 = .ok (.if_icmp .ge (10), 3) := by decide +kernel
theorem d_R_set_21 : decode b_R_set 21 = .ok (.aload_n 0, 1) := by decide +kernel
theorem d_R_set_22 : decode b_R_set 22 = .ok (.getfield 9, 3) := by decide +kernel
theorem d_R_set_25 : decode b_R_set 25 = .ok (.iload_n 1, 1) := by decide +kernel
theorem d_R_set_26 : decode b_R_set 26 = .ok (.iload_n 2, 1) := by decide +kernel
theorem d_R_set_27 : decode b_R_set 27 = .ok (.iastore, 1) := by decide +kernel
theorem d_R_set_28 : decode b_R_set 28 = .ok (.return_, 1) := by decide +kernel
theorem d_R_add_0 : decode b_R_add 0 = .ok (.aload_n 0, 1) := by decide +kernel
theorem d_R_add_1 : decode b_R_add 1 = .ok (.getfield 15, 3) := by decide +kernel
theorem d_R_add_4 : decode b_R_add 4 = .ok (.aload_n 0, 1) := by decide +kernel
theorem d_R_add_5 : decode b_R_add 5 = .ok (.getfield 9, 3) := by decide +kernel
theorem d_R_add_8 : decode b_R_add 8 = .ok (.arraylength, 1) := by decide +kernel
theorem d_R_add_9 : decode b_R_add 9 = .ok (.if_icmp .lt (20), 3) := by decide +kernel
theorem d_R_add_12 : decode b_R_add 12 = .ok (.aload_n 0, 1) := by decide +kernel
theorem d_R_add_13 : decode b_R_add 13 = .ok (.aload_n 0, 1) := by decide +kernel
theorem d_R_add_14 : decode b_R_add 14 = .ok (.getfield 9, 3) := by decide +kernel
theorem d_R_add_17 : decode b_R_add 17 = .ok (.aload_n 0, 1) := by decide +kernel
theorem d_R_add_18 : decode b_R_add 18 = .ok (.getfield 15, 3) := by decide +kernel
theorem d_R_add_21 : decode b_R_add 21 = .ok (.iconst 2, 1) := by decide +kernel
theorem d_R_add_22 : decode b_R_add 22 = .ok (.imul, 1) := by decide +kernel
theorem d_R_add_23 : decode b_R_add 23 = .ok (.invokestatic 19, 3) := by decide +kernel
theorem d_R_add_26 : decode b_R_add 26 = .ok (.putfield 9, 3) := by decide +kernel
theorem d_R_add_29 : decode b_R_add 29 = .ok (.aload_n 0, 1) := by decide +kernel
theorem d_R_add_30 : decode b_R_add 30 = .ok (.getfield 9, 3) := by decide +kernel
theorem d_R_add_33 : decode b_R_add 33 = .ok (.aload_n 0, 1) := by decide +kernel
theorem d_R_add_34 : decode b_R_add 34 = .ok (.getfield 15, 3) := by decide +kernel
theorem d_R_add_37 : decode b_R_add 37 = .ok (.iload_n 1, 1) := by decide +kernel
theorem d_R_add_38 : decode b_R_add 38 = .ok (.iastore, 1) := by decide +kernel
theorem d_R_add_39 : decode b_R_add 39 = .ok (.aload_n 0, 1) := by decide +kernel
theorem d_R_add_40 : decode b_R_add 40 = .ok (.dup, 1) := by decide +kernel
theorem d_R_add_41 : decode b_R_add 41 = .ok (.getfield 15, 3) := by decide +kernel
theorem d_R_add_44 : decode b_R_add 44 = .ok (.iconst 1, 1) := by decide +kernel
theorem d_R_add_45 : decode b_R_add 45 = .ok (.iadd, 1) := by decide +kernel
theorem d_R_add_46 : decode b_R_add 46 = .ok (.putfield 15, 3) := by decide +kernel
theorem d_R_add_49 : decode b_R_add 49 = .ok (.return_, 1) := by decide +kernel
theorem d_R_addAll_0 : decode b_R_addAll 0 = .ok (.aload_n 0, 1) := by decide +kernel
theorem d_R_addAll_1 : decode b_R_addAll 1 = .ok (.getfield 15, 3) := by decide +kernel
theorem d_R_addAll_4 : decode b_R_addAll 4 = .ok (.aload_n 1, 1) := by decide +kernel
theorem d_R_addAll_5 : decode b_R_addAll 5 = .ok (.getfield 15, 3) := by decide +kernel
theorem d_R_addAll_8 : decode b_R_addAll 8 = .ok (.iadd, 1) := by decide +kernel
theorem d_R_addAll_9 : decode b_R_addAll 9 = .ok (.istore_n 2, 1) := by decide +kernel
theorem d_R_addAll_10 : decode b_R_addAll 10 = .ok (.iload_n 2, 1) := by decide +kernel
theorem d_R_addAll_11 : decode b_R_addAll 11 = .ok (.aload_n 0, 1) := by decide +kernel
theorem d_R_addAll_12 : decode b_R_addAll 12 = .ok (.getfield 9, 3) := by decide +kernel
theorem d_R_addAll_15 : decode b_R_addAll 15 = .ok (.arraylength, 1) := by decide +kernel
theorem d_R_addAll_16 : decode b_R_addAll 16 = .ok (.if_icmp .le (17), 3) := by decide +kernel
theorem d_R_addAll_19 : decode b_R_addAll 19 = .ok (.aload_n 0, 1) := by decide +kernel
theorem d_R_addAll_20 : decode b_R_addAll 20 = .ok (.aload_n 0, 1) := by decide +kernel
theorem d_R_addAll_21 : decode b_R_addAll 21 = .ok (.getfield 9, 3) := by decide +kernel
theorem d_R_addAll_24 : decode b_R_addAll 24 = .ok (.iload_n 2, 1) := by decide +kernel
theorem d_R_addAll_25 : decode b_R_addAll 25 = .ok (.iconst 2, 1) := by decide +kernel
theorem d_R_addAll_26 : decode b_R_addAll 26 = .ok (.imul, 1) := by decide +kernel
theorem d_R_addAll_27 : decode b_R_addAll 27 = .ok (.invokestatic 19, 3) := by decide +kernel
theorem d_R_addAll_30 : decode b_R_addAll 30 = .ok (.putfield 9, 3) := by decide +kernel
theorem d_R_addAll_33 : decode b_R_addAll 33 = .ok (.aload_n 1, 1) := by decide +kernel
theorem d_R_addAll_34 : decode b_R_addAll 34 = .ok (.getfield 9, 3) := by decide +kernel
theorem d_R_addAll_37 : decode b_R_addAll 37 = .ok (.iconst 0, 1) := by decide +kernel
theorem d_R_addAll_38 : decode b_R_addAll 38 = .ok (.aload_n 0, 1) := by decide +kernel
theorem d_R_addAll_39 : decode b_R_addAll 39 = .ok (.getfield 9, 3) := by decide +kernel
theorem d_R_addAll_42 : decode b_R_addAll 42 = .ok (.aload_n 0, 1) := by decide +kernel
theorem d_R_addAll_43 : decode b_R_addAll 43 = .ok (.getfield 15, 3) := by decide +kernel
theorem d_R_addAll_46 : decode b_R_addAll 46 = .ok (.aload_n 1, 1) := by decide +kernel
theorem d_R_addAll_47 : decode b_R_addAll 47 = .ok (.getfield 15, 3) := by decide +kernel
theorem d_R_addAll_50 : decode b_R_addAll 50 = .ok (.invokestatic 25, 3) := by decide +kernel
theorem d_R_addAll_53 : decode b_R_addAll 53 = .ok (.aload_n 0, 1) := by decide +kernel
theorem d_R_addAll_54 : decode b_R_addAll 54 = .ok (.iload_n 2, 1) := by decide +kernel
theorem d_R_addAll_55 : decode b_R_addAll 55 = .ok (.putfield 15, 3) := by decide +kernel
theorem d_R_addAll_58 : decode b_R_addAll 58 = .ok (.return_, 1) := by decide +kernel
theorem d_R_cut_0 : decode b_R_cut 0 = .ok (.iload_n 1, 1) := by decide +kernel
theorem d_R_cut_1 : decode b_R_cut 1 = .ok (.ifCond .lt (16), 3) := by decide +kernel
theorem d_R_cut_4 : decode b_R_cut 4 = .ok (.iload_n 1, 1) := by decide +kernel
theorem d_R_cut_5 : decode b_R_cut 5 = .ok (.aload_n 0, 1) := by decide +kernel
theorem d_R_cut_6 : decode b_R_cut 6 = .ok (.getfield 15, 3) := by decide +kernel
theorem d_R_cut_9 : decode b_R_cut 9 = .ok (.if_icmp .ge (8), 3) := by decide +kernel
theorem d_R_cut_12 : decode b_R_cut 12 = .ok (.aload_n 0, 1) := by decide +kernel
theorem d_R_cut_13 : decode b_R_cut 13 = .ok (.iload_n 1, 1) := by decide +kernel
theorem d_R_cut_14 : decode b_R_cut 14 = .ok (.putfield 15, 3) := by decide +kernel
theorem d_R_cut_17 : decode b_R_cut 17 = .ok (.return_, 1) := by decide +kernel
theorem d_S_init_0 : decode b_S_init 0 = .ok (.aload_n 0, 1) := by decide +kernel
theorem d_S_init_1 : decode b_S_init 1 = .ok (.invokespecial 3, 3) := by decide +kernel
theorem d_S_init_4 : decode b_S_init 4 = .ok (.aload_n 0, 1) := by decide +kernel
theorem d_S_init_5 : decode b_S_init 5 = .ok (.new 9, 3) := by decide +kernel
theorem d_S_init_8 : decode b_S_init 8 = .ok (.dup, 1) := by decide +kernel
theorem d_S_init_9 : decode b_S_init 9 = .ok (.invokespecial 11, 3) := by decide +kernel
theorem d_S_init_12 : decode b_S_init 12 = .ok (.putfield 12, 3) := by decide +kernel
theorem d_S_init_15 : decode b_S_init 15 = .ok (.aload_n 0, 1) := by decide +kernel
theorem d_S_init_16 : decode b_S_init 16 = .ok (.new 18, 3) := by decide +kernel
theorem d_S_init_19 : decode b_S_init 19 = .ok (.dup, 1) := by decide +kernel
theorem d_S_init_20 : decode b_S_init 20 = .ok (.invokespecial 20, 3) := by decide +kernel
theorem d_S_init_23 : decode b_S_init 23 = .ok (.putfield 21, 3) := by decide +kernel
theorem d_S_init_26 : decode b_S_init 26 = .ok (.aload_n 0, 1) := by decide +kernel
theorem d_S_init_27 : decode b_S_init 27 = .ok (.new 9, 3) := by decide +kernel
theorem d_S_init_30 : decode b_S_init 30 = .ok (.dup, 1) := by decide +kernel
theorem d_S_init_31 : decode b_S_init 31 = .ok (.invokespecial 11, 3) := by decide +kernel
theorem d_S_init_34 : decode b_S_init 34 = .ok (.putfield 25, 3) := by decide +kernel
theorem d_S_init_37 : decode b_S_init 37 = .ok (.aload_n 0, 1) := by decide +kernel
theorem d_S_init_38 : decode b_S_init 38 = .ok (.new 9, 3) := by decide +kernel
theorem d_S_init_41 : decode b_S_init 41 = .ok (.dup, 1) := by decide +kernel
theorem d_S_init_42 : decode b_S_init 42 = .ok (.invokespecial 11, 3) := by decide +kernel
theorem d_S_init_45 : decode b_S_init 45 = .ok (.putfield 28, 3) := by decide +kernel
theorem d_S_init_48 : decode b_S_init 48 = .ok (.aload_n 0, 1) := by decide +kernel
theorem d_S_init_49 : decode b_S_init 49 = .ok (.new 9, 3) := by decide +kernel
theorem d_S_init_52 : decode b_S_init 52 = .ok (.dup, 1) := by decide +kernel
theorem d_S_init_53 : decode b_S_init 53 = .ok (.invokespecial 11, 3) := by decide +kernel
theorem d_S_init_56 : decode b_S_init 56 = .ok (.putfield 31, 3) := by decide +kernel
theorem d_S_init_59 : decode b_S_init 59 = .ok (.aload_n 0, 1) := by decide +kernel
theorem d_S_init_60 : decode b_S_init 60 = .ok (.new 9, 3) := by decide +kernel
theorem d_S_init_63 : decode b_S_init 63 = .ok (.dup, 1) := by decide +kernel
theorem d_S_init_64 : decode b_S_init 64 = .ok (.invokespecial 11, 3) := by decide +kernel
theorem d_S_init_67 : decode b_S_init 67 = .ok (.putfield 34, 3) := by decide +kernel
theorem d_S_init_70 : decode b_S_init 70 = .ok (.return_, 1) := by decide +kernel
theorem d_S_layParts_0 : decode b_S_layParts 0 = .ok (.aload_n 0, 1) := by decide +kernel
theorem d_S_layParts_1 : decode b_S_layParts 1 = .ok (.getfield 21, 3) := by decide +kernel
theorem d_S_layParts_4 : decode b_S_layParts 4 = .ok (.invokevirtual 37, 3) := by decide +kernel
theorem d_S_layParts_7 : decode b_S_layParts 7 = .ok (.istore_n 3, 1) := by decide +kernel
theorem d_S_layParts_8 : decode b_S_layParts 8 = .ok (.aload_n 1, 1) := by decide +kernel
theorem d_S_layParts_9 : decode b_S_layParts 9 = .ok (.getfield 41, 3) := by decide +kernel
theorem d_S_layParts_12 : decode b_S_layParts 12 = .ok (.bipush (7), 2) := by decide +kernel
theorem d_S_layParts_14 : decode b_S_layParts 14 = .ok (.if_icmp .ne (11), 3) := by decide +kernel
theorem d_S_layParts_17 : decode b_S_layParts 17 = .ok (.aload_n 0, 1) := by decide +kernel
theorem d_S_layParts_18 : decode b_S_layParts 18 = .ok (.aload_n 1, 1) := by decide +kernel
theorem d_S_layParts_19 : decode b_S_layParts 19 = .ok (.invokevirtual 47, 3) := by decide +kernel
theorem d_S_layParts_22 : decode b_S_layParts 22 = .ok (.ifCond .eq (7), 3) := by decide +kernel
theorem d_S_layParts_25 : decode b_S_layParts 25 = .ok (.iconst 1, 1) := by decide +kernel
theorem d_S_layParts_26 : decode b_S_layParts 26 = .ok (.goto (4), 3) := by decide +kernel
theorem d_S_layParts_29 : decode b_S_layParts 29 = .ok (.iconst 0, 1) := by decide +kernel
theorem d_S_layParts_30 : decode b_S_layParts 30 = .ok (.istore 4, 2) := by decide +kernel
theorem d_S_layParts_32 : decode b_S_layParts 32 = .ok (.aload_n 1, 1) := by decide +kernel
theorem d_S_layParts_33 : decode b_S_layParts 33 = .ok (.getfield 51, 3) := by decide +kernel
theorem d_S_layParts_36 : decode b_S_layParts 36 = .ok (.astore 5, 2) := by decide +kernel
theorem d_S_layParts_38 : decode b_S_layParts 38 = .ok (.aload 5, 2) := by decide +kernel
theorem d_S_layParts_40 : decode b_S_layParts 40 = .ok (.ifnull (60), 3) := by decide +kernel
theorem d_S_layParts_43 : decode b_S_layParts 43 = .ok (.aload 5, 2) := by decide +kernel
theorem d_S_layParts_45 : decode b_S_layParts 45 = .ok (.invokevirtual 55, 3) := by decide +kernel
theorem d_S_layParts_48 : decode b_S_layParts 48 = .ok (.astore 6, 2) := by decide +kernel
theorem d_S_layParts_50 : decode b_S_layParts 50 = .ok (.iload 4, 2) := by decide +kernel
theorem d_S_layParts_52 : decode b_S_layParts 52 = .ok (.ifCond .eq (29), 3) := by decide +kernel
theorem d_S_layParts_55 : decode b_S_layParts 55 = .ok (.aload_n 0, 1) := by decide +kernel
theorem d_S_layParts_56 : decode b_S_layParts 56 = .ok (.getfield 21, 3) := by decide +kernel
theorem d_S_layParts_59 : decode b_S_layParts 59 = .ok (.invokevirtual 37, 3) := by decide +kernel
theorem d_S_layParts_62 : decode b_S_layParts 62 = .ok (.iload_n 3, 1) := by decide +kernel
theorem d_S_layParts_63 : decode b_S_layParts 63 = .ok (.if_icmp .le (18), 3) := by decide +kernel
theorem d_S_layParts_66 : decode b_S_layParts 66 = .ok (.aload_n 0, 1) := by decide +kernel
theorem d_S_layParts_67 : decode b_S_layParts 67 = .ok (.aload 5, 2) := by decide +kernel
theorem d_S_layParts_69 : decode b_S_layParts 69 = .ok (.aload 6, 2) := by decide +kernel
theorem d_S_layParts_71 : decode b_S_layParts 71 = .ok (.invokevirtual 59, 3) := by decide +kernel
theorem d_S_layParts_74 : decode b_S_layParts 74 = .ok (.ifCond .eq (7), 3) := by decide +kernel
theorem d_S_layParts_77 : decode b_S_layParts 77 = .ok (.aload_n 0, 1) := by decide +kernel
theorem d_S_layParts_78 : decode b_S_layParts 78 = .ok (.invokevirtual 63, 3) := by decide +kernel
theorem d_S_layParts_81 : decode b_S_layParts 81 = .ok (.aload_n 0, 1) := by decide +kernel
theorem d_S_layParts_82 : decode b_S_layParts 82 = .ok (.aload 5, 2) := by decide +kernel
theorem d_S_layParts_84 : decode b_S_layParts 84 = .ok (.aload 6, 2) := by decide +kernel
theorem d_S_layParts_86 : decode b_S_layParts 86 = .ok (.iload_n 2, 1) := by decide +kernel
theorem d_S_layParts_87 : decode b_S_layParts 87 = .ok (.invokevirtual 66, 3) := by decide +kernel
theorem d_S_layParts_90 : decode b_S_layParts 90 = .ok (.aload 6, 2) := by decide +kernel
theorem d_S_layParts_92 : decode b_S_layParts 92 = .ok (.getfield 70, 3) := by decide +kernel
theorem d_S_layParts_95 : decode b_S_layParts 95 = .ok (.astore 5, 2) := by decide +kernel
theorem d_S_layParts_97 : decode b_S_layParts 97 = .ok (.goto (-59), 3) := by decide +kernel
theorem d_S_layParts_100 : decode b_S_layParts 100 = .ok (.return_, 1) := by decide +kernel
theorem d_S_layPart_0 : decode b_S_layPart 0 = .ok (.aload_n 1, 1) := by decide +kernel
theorem d_S_layPart_1 : decode b_S_layPart 1 = .ok (.astore 4, 2) := by decide +kernel
theorem d_S_layPart_3 : decode b_S_layPart 3 = .ok (.aload 4, 2) := by decide +kernel
theorem d_S_layPart_5 : decode b_S_layPart 5 = .ok (.ifnull (34), 3) := by decide +kernel
theorem d_S_layPart_8 : decode b_S_layPart 8 = .ok (.aload 4, 2) := by decide +kernel
theorem d_S_layPart_10 : decode b_S_layPart 10 = .ok (.aload_n 2, 1) := by decide +kernel
theorem d_S_layPart_11 : decode b_S_layPart 11 = .ok (.getfield 70, 3) := by decide +kernel
theorem d_S_layPart_14 : decode b_S_layPart 14 = .ok (.if_acmp .eq (25), 3) := by decide +kernel
theorem d_S_layPart_17 : decode b_S_layPart 17 = .ok (.aload 4, 2) := by decide +kernel
theorem d_S_layPart_19 : decode b_S_layPart 19 = .ok (.aload_n 0, 1) := by decide +kernel
theorem d_S_layPart_20 : decode b_S_layPart 20 = .ok (.getfield 21, 3) := by decide +kernel
theorem d_S_layPart_23 : decode b_S_layPart 23 = .ok (.invokevirtual 37, 3) := by decide +kernel
theorem d_S_layPart_26 : decode b_S_layPart 26 = .ok (.putfield 73, 3) := by decide +kernel
theorem d_S_layPart_29 : decode b_S_layPart 29 = .ok (.aload 4, 2) := by decide +kernel
theorem d_S_layPart_31 : decode b_S_layPart 31 = .ok (.getfield 70, 3) := by decide +kernel
theorem d_S_layPart_34 : decode b_S_layPart 34 = .ok (.astore 4, 2) := by decide +kernel
theorem d_S_layPart_36 : decode b_S_layPart 36 = .ok (.goto (-33), 3) := by decide +kernel
theorem d_S_layPart_39 : decode b_S_layPart 39 = .ok (.aload_n 1, 1) := by decide +kernel
theorem d_S_layPart_40 : decode b_S_layPart 40 = .ok (.getfield 41, 3) := by decide +kernel
theorem d_S_layPart_43 : decode b_S_layPart 43 = .ok (.tableswitch (123) (1) (6) #[37, 88, 96, 105, 114, 114], 37) := by decide +kernel
theorem d_S_layPart_80 : decode b_S_layPart 80 = .ok (.aload_n 0, 1) := by decide +kernel
theorem d_S_layPart_81 : decode b_S_layPart 81 = .ok (.aload_n 1, 1) := by decide +kernel
theorem d_S_layPart_82 : decode b_S_layPart 82 = .ok (.getfield 76, 3) := by decide +kernel
theorem d_S_layPart_85 : decode b_S_layPart 85 = .ok (.iload_n 3, 1) := by decide +kernel
theorem d_S_layPart_86 : decode b_S_layPart 86 = .ok (.invokevirtual 79, 3) := by decide +kernel
theorem d_S_layPart_89 : decode b_S_layPart 89 = .ok (.aload_n 0, 1) := by decide +kernel
theorem d_S_layPart_90 : decode b_S_layPart 90 = .ok (.aload_n 1, 1) := by decide +kernel
theorem d_S_layPart_91 : decode b_S_layPart 91 = .ok (.getfield 83, 3) := by decide +kernel
theorem d_S_layPart_94 : decode b_S_layPart 94 = .ok (.aload_n 1, 1) := by decide +kernel
theorem d_S_layPart_95 : decode b_S_layPart 95 = .ok (.getfield 86, 3) := by decide +kernel
theorem d_S_layPart_98 : decode b_S_layPart 98 = .ok (.iload_n 3, 1) := by decide +kernel
theorem d_S_layPart_99 : decode b_S_layPart 99 = .ok (.invokevirtual 89, 3) := by decide +kernel
theorem d_S_layPart_102 : decode b_S_layPart 102 = .ok (.aload_n 0, 1) := by decide +kernel
theorem d_S_layPart_103 : decode b_S_layPart 103 = .ok (.getfield 21, 3) := by decide +kernel
theorem d_S_layPart_106 : decode b_S_layPart 106 = .ok (.getfield 93, 3) := by decide +kernel
theorem d_S_layPart_109 : decode b_S_layPart 109 = .ok (.aload_n 1, 1) := by decide +kernel
theorem d_S_layPart_110 : decode b_S_layPart 110 = .ok (.getfield 73, 3) := by decide +kernel
theorem d_S_layPart_113 : decode b_S_layPart 113 = .ok (.aload_n 0, 1) := by decide +kernel
theorem d_S_layPart_114 : decode b_S_layPart 114 = .ok (.getfield 21, 3) := by decide +kernel
theorem d_S_layPart_117 : decode b_S_layPart 117 = .ok (.invokevirtual 37, 3) := by decide +kernel
theorem d_S_layPart_120 : decode b_S_layPart 120 = .ok (.aload_n 1, 1) := by decide +kernel
theorem d_S_layPart_121 : decode b_S_layPart 121 = .ok (.getfield 73, 3) := by decide +kernel
theorem d_S_layPart_124 : decode b_S_layPart 124 = .ok (.isub, 1) := by decide +kernel
theorem d_S_layPart_125 : decode b_S_layPart 125 = .ok (.invokevirtual 96, 3) := by decide +kernel
theorem d_S_layPart_128 : decode b_S_layPart 128 = .ok (.goto (51), 3) := by decide +kernel
theorem d_S_layPart_131 : decode b_S_layPart 131 = .ok (.aload_n 0, 1) := by decide +kernel
theorem d_S_layPart_132 : decode b_S_layPart 132 = .ok (.iload_n 3, 1) := by decide +kernel
theorem d_S_layPart_133 : decode b_S_layPart 133 = .ok (.invokevirtual 99, 3) := by decide +kernel
theorem d_S_layPart_136 : decode b_S_layPart 136 = .ok (.goto (43), 3) := by decide +kernel
theorem d_S_layPart_139 : decode b_S_layPart 139 = .ok (.aload_n 0, 1) := by decide +kernel
theorem d_S_layPart_140 : decode b_S_layPart 140 = .ok (.aload_n 1, 1) := by decide +kernel
theorem d_S_layPart_141 : decode b_S_layPart 141 = .ok (.iload_n 3, 1) := by decide +kernel
theorem d_S_layPart_142 : decode b_S_layPart 142 = .ok (.invokevirtual 103, 3) := by decide +kernel
theorem d_S_layPart_145 : decode b_S_layPart 145 = .ok (.goto (34), 3) := by decide +kernel
theorem d_S_layPart_148 : decode b_S_layPart 148 = .ok (.aload_n 0, 1) := by decide +kernel
theorem d_S_layPart_149 : decode b_S_layPart 149 = .ok (.aload_n 1, 1) := by decide +kernel
theorem d_S_layPart_150 : decode b_S_layPart 150 = .ok (.iload_n 3, 1) := by decide +kernel
theorem d_S_layPart_151 : decode b_S_layPart 151 = .ok (.invokevirtual 107, 3) := by decide +kernel
theorem d_S_layPart_154 : decode b_S_layPart 154 = .ok (.goto (25), 3) := by decide +kernel
theorem d_S_layPart_157 : decode b_S_layPart 157 = .ok (.aload_n 0, 1) := by decide +kernel
theorem d_S_layPart_158 : decode b_S_layPart 158 = .ok (.aload_n 1, 1) := by decide +kernel
theorem d_S_layPart_159 : decode b_S_layPart 159 = .ok (.iload_n 3, 1) := by decide +kernel
theorem d_S_layPart_160 : decode b_S_layPart 160 = .ok (.invokevirtual 110, 3) := by decide +kernel
theorem d_S_layPart_163 : decode b_S_layPart 163 = .ok (.goto (16), 3) := by decide +kernel
theorem d_S_layPart_166 : decode b_S_layPart 166 = .ok (.aload_n 0, 1) := by decide +kernel
theorem d_S_layPart_167 : decode b_S_layPart 167 = .ok (.aload_n 1, 1) := by decide +kernel
theorem d_S_layPart_168 : decode b_S_layPart 168 = .ok (.getfield 83, 3) := by decide +kernel
theorem d_S_layPart_171 : decode b_S_layPart 171 = .ok (.aload_n 2, 1) := by decide +kernel
theorem d_S_layPart_172 : decode b_S_layPart 172 = .ok (.getfield 86, 3) := by decide +kernel
theorem d_S_layPart_175 : decode b_S_layPart 175 = .ok (.iload_n 3, 1) := by decide +kernel
theorem d_S_layPart_176 : decode b_S_layPart 176 = .ok (.invokevirtual 89, 3) := by decide +kernel
theorem d_S_layPart_179 : decode b_S_layPart 179 = .ok (.return_, 1) := by decide +kernel
theorem d_S_addHeadingSign_0 : decode b_S_addHeadingSign 0 = .ok (.iconst 0, 1) := by decide +kernel
theorem d_S_addHeadingSign_1 : decode b_S_addHeadingSign 1 = .ok (.istore_n 3, 1) := by decide +kernel
theorem d_S_addHeadingSign_2 : decode b_S_addHeadingSign 2 = .ok (.iload_n 3, 1) := by decide +kernel
theorem d_S_addHeadingSign_3 : decode b_S_addHeadingSign 3 = .ok (.iload_n 1, 1) := by decide +kernel
theorem d_S_addHeadingSign_4 : decode b_S_addHeadingSign 4 = .ok (.if_icmp .ge (16), 3) := by decide +kernel
theorem d_S_addHeadingSign_7 : decode b_S_addHeadingSign 7 = .ok (.aload_n 0, 1) := by decide +kernel
theorem d_S_addHeadingSign_8 : decode b_S_addHeadingSign 8 = .ok (.bipush (61), 2) := by decide +kernel
theorem d_S_addHeadingSign_10 : decode b_S_addHeadingSign 10 = .ok (.iload_n 2, 1) := by decide +kernel
theorem d_S_addHeadingSign_11 : decode b_S_addHeadingSign 11 = .ok (.invokevirtual 113, 3) := by decide +kernel
theorem d_S_addHeadingSign_14 : decode b_S_addHeadingSign 14 = .ok (.iinc 3 (1), 3) := by decide +kernel
theorem d_S_addHeadingSign_17 : decode b_S_addHeadingSign 17 = .ok (.goto (-15), 3) := by decide +kernel
theorem d_S_addHeadingSign_20 : decode b_S_addHeadingSign 20 = .ok (.aload_n 0, 1) := by decide +kernel
theorem d_S_addHeadingSign_21 : decode b_S_addHeadingSign 21 = .ok (.iload_n 2, 1) := by decide +kernel
theorem d_S_addHeadingSign_22 : decode b_S_addHeadingSign 22 = .ok (.invokevirtual 116, 3) := by decide +kernel
theorem d_S_addHeadingSign_25 : decode b_S_addHeadingSign 25 = .ok (.return_, 1) := by decide +kernel
theorem d_S_layRule_0 : decode b_S_layRule 0 = .ok (.iconst 0, 1) := by decide +kernel
theorem d_S_layRule_1 : decode b_S_layRule 1 = .ok (.istore_n 2, 1) := by decide +kernel
theorem d_S_layRule_2 : decode b_S_layRule 2 = .ok (.iload_n 2, 1) := by decide +kernel
theorem d_S_layRule_3 : decode b_S_layRule 3 = .ok (.iload_n 1, 1) := by decide +kernel
theorem d_S_layRule_4 : decode b_S_layRule 4 = .ok (.if_icmp .ge (18), 3) := by decide +kernel
theorem d_S_layRule_7 : decode b_S_layRule 7 = .ok (.aload_n 0, 1) := by decide +kernel
theorem d_S_layRule_8 : decode b_S_layRule 8 = .ok (.getfield 34, 3) := by decide +kernel
theorem d_S_layRule_11 : decode b_S_layRule 11 = .ok (.bipush (45), 2) := by decide +kernel
theorem d_S_layRule_13 : decode b_S_layRule 13 = .ok (.invokevirtual 119, 3) := by decide +kernel
theorem d_S_layRule_16 : decode b_S_layRule 16 = .ok (.iinc 2 (1), 3) := by decide +kernel
theorem d_S_layRule_19 : decode b_S_layRule 19 = .ok (.goto (-17), 3) := by decide +kernel
theorem d_S_layRule_22 : decode b_S_layRule 22 = .ok (.aload_n 0, 1) := by decide +kernel
theorem d_S_layRule_23 : decode b_S_layRule 23 = .ok (.invokevirtual 122, 3) := by decide +kernel
theorem d_S_layRule_26 : decode b_S_layRule 26 = .ok (.return_, 1) := by decide +kernel
theorem d_S_layCode_0 : decode b_S_layCode 0 = .ok (.aload_n 1, 1) := by decide +kernel
theorem d_S_layCode_1 : decode b_S_layCode 1 = .ok (.getfield 83, 3) := by decide +kernel
theorem d_S_layCode_4 : decode b_S_layCode 4 = .ok (.istore_n 3, 1) := by decide +kernel
theorem d_S_layCode_5 : decode b_S_layCode 5 = .ok (.iload_n 3, 1) := by decide +kernel
theorem d_S_layCode_6 : decode b_S_layCode 6 = .ok (.aload_n 1, 1) := by decide +kernel
theorem d_S_layCode_7 : decode b_S_layCode 7 = .ok (.getfield 86, 3) := by decide +kernel
theorem d_S_layCode_10 : decode b_S_layCode 10 = .ok (.if_icmp .ge (57), 3) := by decide +kernel
theorem d_S_layCode_13 : decode b_S_layCode 13 = .ok (.aload_n 0, 1) := by decide +kernel
theorem d_S_layCode_14 : decode b_S_layCode 14 = .ok (.getfield 12, 3) := by decide +kernel
theorem d_S_layCode_17 : decode b_S_layCode 17 = .ok (.iload_n 3, 1) := by decide +kernel
theorem d_S_layCode_18 : decode b_S_layCode 18 = .ok (.invokevirtual 125, 3) := by decide +kernel
theorem d_S_layCode_21 : decode b_S_layCode 21 = .ok (.istore 4, 2) := by decide +kernel
theorem d_S_layCode_23 : decode b_S_layCode 23 = .ok (.iload 4, 2) := by decide +kernel
theorem d_S_layCode_25 : decode b_S_layCode 25 = .ok (.bipush (10), 2) := by decide +kernel
theorem d_S_layCode_27 : decode b_S_layCode 27 = .ok (.if_icmp .ne (10), 3) := by decide +kernel
theorem d_S_layCode_30 : decode b_S_layCode 30 = .ok (.aload_n 0, 1) := by decide +kernel
theorem d_S_layCode_31 : decode b_S_layCode 31 = .ok (.invokevirtual 122, 3) := by decide +kernel
theorem d_S_layCode_34 : decode b_S_layCode 34 = .ok (.goto (27), 3) := by decide +kernel
theorem d_S_layCode_37 : decode b_S_layCode 37 = .ok (.aload_n 0, 1) := by decide +kernel
theorem d_S_layCode_38 : decode b_S_layCode 38 = .ok (.getfield 34, 3) := by decide +kernel
theorem d_S_layCode_41 : decode b_S_layCode 41 = .ok (.invokevirtual 129, 3) := by decide +kernel
theorem d_S_layCode_44 : decode b_S_layCode 44 = .ok (.iload_n 2, 1) := by decide +kernel
theorem d_S_layCode_45 : decode b_S_layCode 45 = .ok (.if_icmp .lt (7), 3) := by decide +kernel
theorem d_S_layCode_48 : decode b_S_layCode 48 = .ok (.aload_n 0, 1) := by decide +kernel
theorem d_S_layCode_49 : decode b_S_layCode 49 = .ok (.invokevirtual 122, 3) := by decide +kernel
theorem d_S_layCode_52 : decode b_S_layCode 52 = .ok (.aload_n 0, 1) := by decide +kernel
theorem d_S_layCode_53 : decode b_S_layCode 53 = .ok (.getfield 34, 3) := by decide +kernel
