theorem d_M_init_220 : decode b_M_init 220 = .ok (.aload_n 0, 1) := by decide +kernel
theorem d_M_init_221 : decode b_M_init 221 = .ok (.sipush (4010), 3) := by decide +kernel
theorem d_M_init_224 : decode b_M_init 224 = .ok (.newarray .int, 2) := by decide +kernel
theorem d_M_init_226 : decode b_M_init 226 = .ok (.putfield 88, 3) := by decide +kernel
theorem d_M_init_229 : decode b_M_init 229 = .ok (.aload_n 0, 1) := by decide +kernel
theorem d_M_init_230 : decode b_M_init 230 = .ok (.sipush (4300), 3) := by decide +kernel
theorem d_M_init_233 : decode b_M_init 233 = .ok (.newarray .int, 2) := by decide +kernel
theorem d_M_init_235 : decode b_M_init 235 = .ok (.putfield 91, 3) := by decide +kernel
theorem d_M_init_238 : decode b_M_init 238 = .ok (.aload_n 0, 1) := by decide +kernel
theorem d_M_init_239 : decode b_M_init 239 = .ok (.invokevirtual 94, 3) := by decide +kernel
theorem d_M_init_242 : decode b_M_init 242 = .ok (.return_, 1) := by decide +kernel
theorem d_M_empty_0 : decode b_M_empty 0 = .ok (.aload_n 0, 1) := by decide +kernel
theorem d_M_empty_1 : decode b_M_empty 1 = .ok (.getfield 7, 3) := by decide +kernel
theorem d_M_empty_4 : decode b_M_empty 4 = .ok (.iconst 0, 1) := by decide +kernel
theorem d_M_empty_5 : decode b_M_empty 5 = .ok (.bipush (11), 2) := by decide +kernel
theorem d_M_empty_7 : decode b_M_empty 7 = .ok (.iastore, 1) := by decide +kernel
theorem d_M_empty_8 : decode b_M_empty 8 = .ok (.aload_n 0, 1) := by decide +kernel
theorem d_M_empty_9 : decode b_M_empty 9 = .ok (.getfield 13, 3) := by decide +kernel
theorem d_M_empty_12 : decode b_M_empty 12 = .ok (.iconst 0, 1) := by decide +kernel
theorem d_M_empty_13 : decode b_M_empty 13 = .ok (.iconst (-1), 1) := by decide +kernel
theorem d_M_empty_14 : decode b_M_empty 14 = .ok (.iastore, 1) := by decide +kernel
theorem d_M_empty_15 : decode b_M_empty 15 = .ok (.aload_n 0, 1) := by decide +kernel
theorem d_M_empty_16 : decode b_M_empty 16 = .ok (.getfield 19, 3) := by decide +kernel
theorem d_M_empty_19 : decode b_M_empty 19 = .ok (.iconst 0, 1) := by decide +kernel
theorem d_M_empty_20 : decode b_M_empty 20 = .ok (.iconst 1, 1) := by decide +kernel
theorem d_M_empty_21 : decode b_M_empty 21 = .ok (.iastore, 1) := by decide +kernel
theorem d_M_empty_22 : decode b_M_empty 22 = .ok (.aload_n 0, 1) := by decide +kernel
theorem d_M_empty_23 : decode b_M_empty 23 = .ok (.getfield 28, 3) := by decide +kernel
theorem d_M_empty_26 : decode b_M_empty 26 = .ok (.iconst 0, 1) := by decide +kernel
theorem d_M_empty_27 : decode b_M_empty 27 = .ok (.iconst (-1), 1) := by decide +kernel
theorem d_M_empty_28 : decode b_M_empty 28 = .ok (.iastore, 1) := by decide +kernel
theorem d_M_empty_29 : decode b_M_empty 29 = .ok (.aload_n 0, 1) := by decide +kernel
theorem d_M_empty_30 : decode b_M_empty 30 = .ok (.getfield 16, 3) := by decide +kernel
theorem d_M_empty_33 : decode b_M_empty 33 = .ok (.iconst 0, 1) := by decide +kernel
theorem d_M_empty_34 : decode b_M_empty 34 = .ok (.iconst 0, 1) := by decide +kernel
theorem d_M_empty_35 : decode b_M_empty 35 = .ok (.iastore, 1) := by decide +kernel
theorem d_M_empty_36 : decode b_M_empty 36 = .ok (.aload_n 0, 1) := by decide +kernel
theorem d_M_empty_37 : decode b_M_empty 37 = .ok (.getfield 25, 3) := by decide +kernel
theorem d_M_empty_40 : decode b_M_empty 40 = .ok (.iconst 0, 1) := by decide +kernel
theorem d_M_empty_41 : decode b_M_empty 41 = .ok (.iconst 0, 1) := by decide +kernel
theorem d_M_empty_42 : decode b_M_empty 42 = .ok (.iastore, 1) := by decide +kernel
theorem d_M_empty_43 : decode b_M_empty 43 = .ok (.aload_n 0, 1) := by decide +kernel
theorem d_M_empty_44 : decode b_M_empty 44 = .ok (.iconst 1, 1) := by decide +kernel
theorem d_M_empty_45 : decode b_M_empty 45 = .ok (.putfield 101, 3) := by decide +kernel
theorem d_M_empty_48 : decode b_M_empty 48 = .ok (.aload_n 0, 1) := by decide +kernel
theorem d_M_empty_49 : decode b_M_empty 49 = .ok (.iconst 0, 1) := by decide +kernel
theorem d_M_empty_50 : decode b_M_empty 50 = .ok (.putfield 104, 3) := by decide +kernel
theorem d_M_empty_53 : decode b_M_empty 53 = .ok (.aload_n 0, 1) := by decide +kernel
theorem d_M_empty_54 : decode b_M_empty 54 = .ok (.iconst 0, 1) := by decide +kernel
theorem d_M_empty_55 : decode b_M_empty 55 = .ok (.putfield 107, 3) := by decide +kernel
theorem d_M_empty_58 : decode b_M_empty 58 = .ok (.aload_n 0, 1) := by decide +kernel
theorem d_M_empty_59 : decode b_M_empty 59 = .ok (.iconst 0, 1) := by decide +kernel
theorem d_M_empty_60 : decode b_M_empty 60 = .ok (.putfield 110, 3) := by decide +kernel
theorem d_M_empty_63 : decode b_M_empty 63 = .ok (.aload_n 0, 1) := by decide +kernel
theorem d_M_empty_64 : decode b_M_empty 64 = .ok (.iconst 0, 1) := by decide +kernel
theorem d_M_empty_65 : decode b_M_empty 65 = .ok (.putfield 113, 3) := by decide +kernel
theorem d_M_empty_68 : decode b_M_empty 68 = .ok (.aload_n 0, 1) := by decide +kernel
theorem d_M_empty_69 : decode b_M_empty 69 = .ok (.iconst 0, 1) := by decide +kernel
theorem d_M_empty_70 : decode b_M_empty 70 = .ok (.putfield 116, 3) := by decide +kernel
theorem d_M_empty_73 : decode b_M_empty 73 = .ok (.aload_n 0, 1) := by decide +kernel
theorem d_M_empty_74 : decode b_M_empty 74 = .ok (.iconst 0, 1) := by decide +kernel
theorem d_M_empty_75 : decode b_M_empty 75 = .ok (.putfield 119, 3) := by decide +kernel
theorem d_M_empty_78 : decode b_M_empty 78 = .ok (.aload_n 0, 1) := by decide +kernel
theorem d_M_empty_79 : decode b_M_empty 79 = .ok (.iconst 0, 1) := by decide +kernel
theorem d_M_empty_80 : decode b_M_empty 80 = .ok (.putfield 122, 3) := by decide +kernel
theorem d_M_empty_83 : decode b_M_empty 83 = .ok (.return_, 1) := by decide +kernel
theorem d_P_isOneOf_0 : decode b_P_isOneOf 0 = .ok (.iload_n 0, 1) := by decide +kernel
theorem d_P_isOneOf_1 : decode b_P_isOneOf 1 = .ok (.ifCond .lt (22), 3) := by decide +kernel
theorem d_P_isOneOf_4 : decode b_P_isOneOf 4 = .ok (.iload_n 0, 1) := by decide +kernel
theorem d_P_isOneOf_5 : decode b_P_isOneOf 5 = .ok (.bipush (10), 2) := by decide +kernel
theorem d_P_isOneOf_7 : decode b_P_isOneOf 7 = .ok (.if_icmp .gt (16), 3) := by decide +kernel
theorem d_P_isOneOf_10 : decode b_P_isOneOf 10 = .ok (.iload_n 1, 1) := by decide +kernel
theorem d_P_isOneOf_11 : decode b_P_isOneOf 11 = .ok (.iload_n 0, 1) := by decide +kernel
theorem d_P_isOneOf_12 : decode b_P_isOneOf 12 = .ok (.ishr, 1) := by decide +kernel
theorem d_P_isOneOf_13 : decode b_P_isOneOf 13 = .ok (.iconst 1, 1) := by decide +kernel
theorem d_P_isOneOf_14 : decode b_P_isOneOf 14 = .ok (.iand, 1) := by decide +kernel
theorem d_P_isOneOf_15 : decode b_P_isOneOf 15 = .ok (.iconst 1, 1) := by decide +kernel
theorem d_P_isOneOf_16 : decode b_P_isOneOf 16 = .ok (.if_icmp .ne (7), 3) := by decide +kernel
theorem d_P_isOneOf_19 : decode b_P_isOneOf 19 = .ok (.iconst 1, 1) := by decide +kernel
theorem d_P_isOneOf_20 : decode b_P_isOneOf 20 = .ok (.goto (4), 3) := by decide +kernel
theorem d_P_isOneOf_23 : decode b_P_isOneOf 23 = .ok (.iconst 0, 1) := by decide +kernel
theorem d_P_isOneOf_24 : decode b_P_isOneOf 24 = .ok (.ireturn, 1) := by decide +kernel
theorem d_P_isNumberOf_0 : decode b_P_isNumberOf 0 = .ok (.iload_n 0, 1) := by decide +kernel
theorem d_P_isNumberOf_1 : decode b_P_isNumberOf 1 = .ok (.iconst 1, 1) := by decide +kernel
theorem d_P_isNumberOf_2 : decode b_P_isNumberOf 2 = .ok (.if_icmp .ne (20), 3) := by decide +kernel
theorem d_P_isNumberOf_5 : decode b_P_isNumberOf 5 = .ok (.iload_n 1, 1) := by decide +kernel
theorem d_P_isNumberOf_6 : decode b_P_isNumberOf 6 = .ok (.iconst 1, 1) := by decide +kernel
theorem d_P_isNumberOf_7 : decode b_P_isNumberOf 7 = .ok (.if_icmp .lt (13), 3) := by decide +kernel
theorem d_P_isNumberOf_10 : decode b_P_isNumberOf 10 = .ok (.iload_n 1, 1) := by decide +kernel
theorem d_P_isNumberOf_11 : decode b_P_isNumberOf 11 = .ok (.bipush (6), 2) := by decide +kernel
theorem d_P_isNumberOf_13 : decode b_P_isNumberOf 13 = .ok (.if_icmp .gt (7), 3) := by decide +kernel
theorem d_P_isNumberOf_16 : decode b_P_isNumberOf 16 = .ok (.iconst 1, 1) := by decide +kernel
theorem d_P_isNumberOf_17 : decode b_P_isNumberOf 17 = .ok (.goto (4), 3) := by decide +kernel
theorem d_P_isNumberOf_20 : decode b_P_isNumberOf 20 = .ok (.iconst 0, 1) := by decide +kernel
theorem d_P_isNumberOf_21 : decode b_P_isNumberOf 21 = .ok (.ireturn, 1) := by decide +kernel
theorem d_P_isNumberOf_22 : decode b_P_isNumberOf 22 = .ok (.iload_n 0, 1) := by decide +kernel
theorem d_P_isNumberOf_23 : decode b_P_isNumberOf 23 = .ok (.bipush (6), 2) := by decide +kernel
theorem d_P_isNumberOf_25 : decode b_P_isNumberOf 25 = .ok (.if_icmp .ne (13), 3) := by decide +kernel
theorem d_P_isNumberOf_28 : decode b_P_isNumberOf 28 = .ok (.iload_n 1, 1) := by decide +kernel
theorem d_P_isNumberOf_29 : decode b_P_isNumberOf 29 = .ok (.ifCond .lt (13), 3) := by decide +kernel
theorem d_P_isNumberOf_32 : decode b_P_isNumberOf 32 = .ok (.iload_n 1, 1) := by decide +kernel
theorem d_P_isNumberOf_33 : decode b_P_isNumberOf 33 = .ok (.ldc 212, 2) := by decide +kernel
theorem d_P_isNumberOf_35 : decode b_P_isNumberOf 35 = .ok (.if_icmp .gt (7), 3) := by decide +kernel
theorem d_P_isNumberOf_38 : decode b_P_isNumberOf 38 = .ok (.iconst 1, 1) := by decide +kernel
theorem d_P_isNumberOf_39 : decode b_P_isNumberOf 39 = .ok (.goto (4), 3) := by decide +kernel
theorem d_P_isNumberOf_42 : decode b_P_isNumberOf 42 = .ok (.iconst 0, 1) := by decide +kernel
theorem d_P_isNumberOf_43 : decode b_P_isNumberOf 43 = .ok (.ireturn, 1) := by decide +kernel
theorem d_P_isNodeRefused_0 : decode b_P_isNodeRefused 0 = .ok (.aload_n 0, 1) := by decide +kernel
theorem d_P_isNodeRefused_1 : decode b_P_isNodeRefused 1 = .ok (.getfield 39, 3) := by decide +kernel
theorem d_P_isNodeRefused_4 : decode b_P_isNodeRefused 4 = .ok (.sipush (300), 3) := by decide +kernel
theorem d_P_isNodeRefused_7 : decode b_P_isNodeRefused 7 = .ok (.if_icmp .ge (15), 3) := by decide +kernel
theorem d_P_isNodeRefused_10 : decode b_P_isNodeRefused 10 = .ok (.aload_n 0, 1) := by decide +kernel
theorem d_P_isNodeRefused_11 : decode b_P_isNodeRefused 11 = .ok (.getfield 36, 3) := by decide +kernel
theorem d_P_isNodeRefused_14 : decode b_P_isNodeRefused 14 = .ok (.getfield 192, 3) := by decide +kernel
theorem d_P_isNodeRefused_17 : decode b_P_isNodeRefused 17 = .ok (.bipush (12), 2) := by decide +kernel
theorem d_P_isNodeRefused_19 : decode b_P_isNodeRefused 19 = .ok (.if_icmp .lt (7), 3) := by decide +kernel
theorem d_P_isNodeRefused_22 : decode b_P_isNodeRefused 22 = .ok (.iconst 1, 1) := by decide +kernel
theorem d_P_isNodeRefused_23 : decode b_P_isNodeRefused 23 = .ok (.goto (4), 3) := by decide +kernel
theorem d_P_isNodeRefused_26 : decode b_P_isNodeRefused 26 = .ok (.iconst 0, 1) := by decide +kernel
theorem d_P_isNodeRefused_27 : decode b_P_isNodeRefused 27 = .ok (.ireturn, 1) := by decide +kernel
theorem d_N_mayHold_0 : decode b_N_mayHold 0 = .ok (.aload_n 0, 1) := by decide +kernel
theorem d_N_mayHold_1 : decode b_N_mayHold 1 = .ok (.getfield 18, 3) := by decide +kernel
theorem d_N_mayHold_4 : decode b_N_mayHold 4 = .ok (.tableswitch (103) (-1) (8) #[56, 83, 83, 103, 91, 56, 63, 63, 75, 83], 56) := by decide +kernel
theorem d_N_mayHold_60 : decode b_N_mayHold 60 = .ok (.iload_n 1, 1) := by decide +kernel
theorem d_N_mayHold_61 : decode b_N_mayHold 61 = .ok (.bipush (127), 2) := by decide +kernel
theorem d_N_mayHold_63 : decode b_N_mayHold 63 = .ok (.invokestatic 37, 3) := by decide +kernel
theorem d_N_mayHold_66 : decode b_N_mayHold 66 = .ok (.ireturn, 1) := by decide +kernel
theorem d_N_mayHold_67 : decode b_N_mayHold 67 = .ok (.iload_n 1, 1) := by decide +kernel
theorem d_N_mayHold_68 : decode b_N_mayHold 68 = .ok (.bipush (7), 2) := by decide +kernel
theorem d_N_mayHold_70 : decode b_N_mayHold 70 = .ok (.if_icmp .ne (7), 3) := by decide +kernel
theorem d_N_mayHold_73 : decode b_N_mayHold 73 = .ok (.iconst 1, 1) := by decide +kernel
theorem d_N_mayHold_74 : decode b_N_mayHold 74 = .ok (.goto (4), 3) := by decide +kernel
theorem d_N_mayHold_77 : decode b_N_mayHold 77 = .ok (.iconst 0, 1) := by decide +kernel
theorem d_N_mayHold_78 : decode b_N_mayHold 78 = .ok (.ireturn, 1) := by decide +kernel
theorem d_N_mayHold_79 : decode b_N_mayHold 79 = .ok (.iload_n 1, 1) := by decide +kernel
theorem d_N_mayHold_80 : decode b_N_mayHold 80 = .ok (.sipush (1919), 3) := by decide +kernel
theorem d_N_mayHold_83 : decode b_N_mayHold 83 = .ok (.invokestatic 37, 3) := by decide +kernel
theorem d_N_mayHold_86 : decode b_N_mayHold 86 = .ok (.ireturn, 1) := by decide +kernel
theorem d_N_mayHold_87 : decode b_N_mayHold 87 = .ok (.iload_n 1, 1) := by decide +kernel
theorem d_N_mayHold_88 : decode b_N_mayHold 88 = .ok (.sipush (1792), 3) := by decide +kernel
theorem d_N_mayHold_91 : decode b_N_mayHold 91 = .ok (.invokestatic 37, 3) := by decide +kernel
theorem d_N_mayHold_94 : decode b_N_mayHold 94 = .ok (.ireturn, 1) := by decide +kernel
theorem d_N_mayHold_95 : decode b_N_mayHold 95 = .ok (.iload_n 1, 1) := by decide +kernel
theorem d_N_mayHold_96 : decode b_N_mayHold 96 = .ok (.bipush (10), 2) := by decide +kernel
theorem d_N_mayHold_98 : decode b_N_mayHold 98 = .ok (.if_icmp .ne (7), 3) := by decide +kernel
theorem d_N_mayHold_101 : decode b_N_mayHold 101 = .ok (.iconst 1, 1) := by decide +kernel
theorem d_N_mayHold_102 : decode b_N_mayHold 102 = .ok (.goto (4), 3) := by decide +kernel
theorem d_N_mayHold_105 : decode b_N_mayHold 105 = .ok (.iconst 0, 1) := by decide +kernel
theorem d_N_mayHold_106 : decode b_N_mayHold 106 = .ok (.ireturn, 1) := by decide +kernel
theorem d_N_mayHold_107 : decode b_N_mayHold 107 = .ok (.iconst 0, 1) := by decide +kernel
