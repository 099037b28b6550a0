theorem dX10_comingYields_3 : decode cX10_comingYields 3 = .ok (.invokevirtual 389, 3) := by decide +kernel
theorem dX10_comingYields_6 : decode cX10_comingYields 6 = .ok (.aload_n 0, 1) := by decide +kernel
theorem dX10_comingYields_7 : decode cX10_comingYields 7 = .ok (.iload_n 1, 1) := by decide +kernel
theorem dX10_comingYields_8 : decode cX10_comingYields 8 = .ok (.iload_n 2, 1) := by decide +kernel
theorem dX10_comingYields_9 : decode cX10_comingYields 9 = .ok (.iconst 3, 1) := by decide +kernel
theorem dX10_comingYields_10 : decode cX10_comingYields 10 = .ok (.imul, 1) := by decide +kernel
theorem dX10_comingYields_11 : decode cX10_comingYields 11 = .ok (.invokevirtual 392, 3) := by decide +kernel
theorem dX10_comingYields_14 : decode cX10_comingYields 14 = .ok (.ireturn, 1) := by decide +kernel
theorem dX10_yieldsAct_0 : decode cX10_yieldsAct 0 = .ok (.aload_n 0, 1) := by decide +kernel
theorem dX10_yieldsAct_1 : decode cX10_yieldsAct 1 = .ok (.getfield 22, 3) := by decide +kernel
theorem dX10_yieldsAct_4 : decode cX10_yieldsAct 4 = .ok (.iload_n 1, 1) := by decide +kernel
theorem dX10_yieldsAct_5 : decode cX10_yieldsAct 5 = .ok (.iaload, 1) := by decide +kernel
theorem dX10_yieldsAct_6 : decode cX10_yieldsAct 6 = .ok (.tableswitch 75 2 6 #[34, 75, 41, 75, 55], 34) := by decide +kernel
theorem dX10_yieldsAct_40 : decode cX10_yieldsAct 40 = .ok (.aload_n 0, 1) := by decide +kernel
theorem dX10_yieldsAct_41 : decode cX10_yieldsAct 41 = .ok (.iload_n 1, 1) := by decide +kernel
theorem dX10_yieldsAct_42 : decode cX10_yieldsAct 42 = .ok (.iload_n 2, 1) := by decide +kernel
theorem dX10_yieldsAct_43 : decode cX10_yieldsAct 43 = .ok (.invokevirtual 395, 3) := by decide +kernel
theorem dX10_yieldsAct_46 : decode cX10_yieldsAct 46 = .ok (.ireturn, 1) := by decide +kernel
theorem dX10_yieldsAct_47 : decode cX10_yieldsAct 47 = .ok (.aload_n 0, 1) := by decide +kernel
theorem dX10_yieldsAct_48 : decode cX10_yieldsAct 48 = .ok (.bipush 50, 2) := by decide +kernel
theorem dX10_yieldsAct_50 : decode cX10_yieldsAct 50 = .ok (.invokevirtual 389, 3) := by decide +kernel
theorem dX10_yieldsAct_53 : decode cX10_yieldsAct 53 = .ok (.aload_n 0, 1) := by decide +kernel
theorem dX10_yieldsAct_54 : decode cX10_yieldsAct 54 = .ok (.iload_n 1, 1) := by decide +kernel
theorem dX10_yieldsAct_55 : decode cX10_yieldsAct 55 = .ok (.iload_n 2, 1) := by decide +kernel
theorem dX10_yieldsAct_56 : decode cX10_yieldsAct 56 = .ok (.invokevirtual 392, 3) := by decide +kernel
theorem dX10_yieldsAct_59 : decode cX10_yieldsAct 59 = .ok (.ineg, 1) := by decide +kernel
theorem dX10_yieldsAct_60 : decode cX10_yieldsAct 60 = .ok (.ireturn, 1) := by decide +kernel
theorem dX10_yieldsAct_61 : decode cX10_yieldsAct 61 = .ok (.aload_n 0, 1) := by decide +kernel
theorem dX10_yieldsAct_62 : decode cX10_yieldsAct 62 = .ok (.bipush 71, 2) := by decide +kernel
theorem dX10_yieldsAct_64 : decode cX10_yieldsAct 64 = .ok (.invokevirtual 389, 3) := by decide +kernel
theorem dX10_yieldsAct_67 : decode cX10_yieldsAct 67 = .ok (.aload_n 0, 1) := by decide +kernel
theorem dX10_yieldsAct_68 : decode cX10_yieldsAct 68 = .ok (.iload_n 1, 1) := by decide +kernel
theorem dX10_yieldsAct_69 : decode cX10_yieldsAct 69 = .ok (.iload_n 2, 1) := by decide +kernel
theorem dX10_yieldsAct_70 : decode cX10_yieldsAct 70 = .ok (.invokevirtual 395, 3) := by decide +kernel
theorem dX10_yieldsAct_73 : decode cX10_yieldsAct 73 = .ok (.aload_n 0, 1) := by decide +kernel
theorem dX10_yieldsAct_74 : decode cX10_yieldsAct 74 = .ok (.getfield 26, 3) := by decide +kernel
theorem dX10_yieldsAct_77 : decode cX10_yieldsAct 77 = .ok (.iload_n 1, 1) := by decide +kernel
theorem dX10_yieldsAct_78 : decode cX10_yieldsAct 78 = .ok (.iaload, 1) := by decide +kernel
theorem dX10_yieldsAct_79 : decode cX10_yieldsAct 79 = .ok (.ixor, 1) := by decide +kernel
theorem dX10_yieldsAct_80 : decode cX10_yieldsAct 80 = .ok (.ireturn, 1) := by decide +kernel
theorem dX10_yieldsAct_81 : decode cX10_yieldsAct 81 = .ok (.aload_n 0, 1) := by decide +kernel
theorem dX10_yieldsAct_82 : decode cX10_yieldsAct 82 = .ok (.iload_n 1, 1) := by decide +kernel
theorem dX10_yieldsAct_83 : decode cX10_yieldsAct 83 = .ok (.iload_n 2, 1) := by decide +kernel
theorem dX10_yieldsAct_84 : decode cX10_yieldsAct 84 = .ok (.invokevirtual 392, 3) := by decide +kernel
theorem dX10_yieldsAct_87 : decode cX10_yieldsAct 87 = .ok (.ireturn, 1) := by decide +kernel
theorem dX10_moveComes_0 : decode cX10_moveComes 0 = .ok (.aload_n 0, 1) := by decide +kernel
theorem dX10_moveComes_1 : decode cX10_moveComes 1 = .ok (.bipush 11, 2) := by decide +kernel
theorem dX10_moveComes_3 : decode cX10_moveComes 3 = .ok (.invokevirtual 389, 3) := by decide +kernel
theorem dX10_moveComes_6 : decode cX10_moveComes 6 = .ok (.aload_n 0, 1) := by decide +kernel
theorem dX10_moveComes_7 : decode cX10_moveComes 7 = .ok (.iload_n 1, 1) := by decide +kernel
theorem dX10_moveComes_8 : decode cX10_moveComes 8 = .ok (.iload_n 2, 1) := by decide +kernel
theorem dX10_moveComes_9 : decode cX10_moveComes 9 = .ok (.invokevirtual 398, 3) := by decide +kernel
theorem dX10_moveComes_12 : decode cX10_moveComes 12 = .ok (.aload_n 0, 1) := by decide +kernel
theorem dX10_moveComes_13 : decode cX10_moveComes 13 = .ok (.getfield 26, 3) := by decide +kernel
theorem dX10_moveComes_16 : decode cX10_moveComes 16 = .ok (.iload_n 1, 1) := by decide +kernel
theorem dX10_moveComes_17 : decode cX10_moveComes 17 = .ok (.iaload, 1) := by decide +kernel
theorem dX10_moveComes_18 : decode cX10_moveComes 18 = .ok (.isub, 1) := by decide +kernel
theorem dX10_moveComes_19 : decode cX10_moveComes 19 = .ok (.ireturn, 1) := by decide +kernel
theorem dX10_yieldingComes_0 : decode cX10_yieldingComes 0 = .ok (.aload_n 0, 1) := by decide +kernel
theorem dX10_yieldingComes_1 : decode cX10_yieldingComes 1 = .ok (.bipush 20, 2) := by decide +kernel
theorem dX10_yieldingComes_3 : decode cX10_yieldingComes 3 = .ok (.invokevirtual 389, 3) := by decide +kernel
theorem dX10_yieldingComes_6 : decode cX10_yieldingComes 6 = .ok (.aload_n 0, 1) := by decide +kernel
theorem dX10_yieldingComes_7 : decode cX10_yieldingComes 7 = .ok (.iload_n 1, 1) := by decide +kernel
theorem dX10_yieldingComes_8 : decode cX10_yieldingComes 8 = .ok (.iload_n 2, 1) := by decide +kernel
theorem dX10_yieldingComes_9 : decode cX10_yieldingComes 9 = .ok (.invokevirtual 401, 3) := by decide +kernel
theorem dX10_yieldingComes_12 : decode cX10_yieldingComes 12 = .ok (.bipush 6, 2) := by decide +kernel
theorem dX10_yieldingComes_14 : decode cX10_yieldingComes 14 = .ok (.ixor, 1) := by decide +kernel
theorem dX10_yieldingComes_15 : decode cX10_yieldingComes 15 = .ok (.ireturn, 1) := by decide +kernel
theorem dX10_comesAct_0 : decode cX10_comesAct 0 = .ok (.aload_n 0, 1) := by decide +kernel
theorem dX10_comesAct_1 : decode cX10_comesAct 1 = .ok (.getfield 22, 3) := by decide +kernel
theorem dX10_comesAct_4 : decode cX10_comesAct 4 = .ok (.iload_n 1, 1) := by decide +kernel
theorem dX10_comesAct_5 : decode cX10_comesAct 5 = .ok (.iaload, 1) := by decide +kernel
theorem dX10_comesAct_6 : decode cX10_comesAct 6 = .ok (.tableswitch 82 1 6 #[38, 82, 82, 45, 38, 60], 38) := by decide +kernel
theorem dX10_comesAct_44 : decode cX10_comesAct 44 = .ok (.aload_n 0, 1) := by decide +kernel
theorem dX10_comesAct_45 : decode cX10_comesAct 45 = .ok (.iload_n 1, 1) := by decide +kernel
theorem dX10_comesAct_46 : decode cX10_comesAct 46 = .ok (.iload_n 2, 1) := by decide +kernel
theorem dX10_comesAct_47 : decode cX10_comesAct 47 = .ok (.invokevirtual 404, 3) := by decide +kernel
theorem dX10_comesAct_50 : decode cX10_comesAct 50 = .ok (.ireturn, 1) := by decide +kernel
theorem dX10_comesAct_51 : decode cX10_comesAct 51 = .ok (.aload_n 0, 1) := by decide +kernel
theorem dX10_comesAct_52 : decode cX10_comesAct 52 = .ok (.bipush 51, 2) := by decide +kernel
theorem dX10_comesAct_54 : decode cX10_comesAct 54 = .ok (.invokevirtual 389, 3) := by decide +kernel
theorem dX10_comesAct_57 : decode cX10_comesAct 57 = .ok (.aload_n 0, 1) := by decide +kernel
theorem dX10_comesAct_58 : decode cX10_comesAct 58 = .ok (.iload_n 1, 1) := by decide +kernel
theorem dX10_comesAct_59 : decode cX10_comesAct 59 = .ok (.iload_n 2, 1) := by decide +kernel
theorem dX10_comesAct_60 : decode cX10_comesAct 60 = .ok (.iconst 1, 1) := by decide +kernel
theorem dX10_comesAct_61 : decode cX10_comesAct 61 = .ok (.iadd, 1) := by decide +kernel
theorem dX10_comesAct_62 : decode cX10_comesAct 62 = .ok (.invokevirtual 404, 3) := by decide +kernel
theorem dX10_comesAct_65 : decode cX10_comesAct 65 = .ok (.ireturn, 1) := by decide +kernel
theorem dX10_comesAct_66 : decode cX10_comesAct 66 = .ok (.aload_n 0, 1) := by decide +kernel
theorem dX10_comesAct_67 : decode cX10_comesAct 67 = .ok (.bipush 70, 2) := by decide +kernel
theorem dX10_comesAct_69 : decode cX10_comesAct 69 = .ok (.invokevirtual 389, 3) := by decide +kernel
theorem dX10_comesAct_72 : decode cX10_comesAct 72 = .ok (.aload_n 0, 1) := by decide +kernel
theorem dX10_comesAct_73 : decode cX10_comesAct 73 = .ok (.iload_n 1, 1) := by decide +kernel
theorem dX10_comesAct_74 : decode cX10_comesAct 74 = .ok (.iload_n 2, 1) := by decide +kernel
theorem dX10_comesAct_75 : decode cX10_comesAct 75 = .ok (.invokevirtual 401, 3) := by decide +kernel
theorem dX10_comesAct_78 : decode cX10_comesAct 78 = .ok (.istore_n 3, 1) := by decide +kernel
theorem dX10_comesAct_79 : decode cX10_comesAct 79 = .ok (.iload_n 3, 1) := by decide +kernel
theorem dX10_comesAct_80 : decode cX10_comesAct 80 = .ok (.aload_n 0, 1) := by decide +kernel
theorem dX10_comesAct_81 : decode cX10_comesAct 81 = .ok (.iload_n 1, 1) := by decide +kernel
theorem dX10_comesAct_82 : decode cX10_comesAct 82 = .ok (.iconst 2, 1) := by decide +kernel
theorem dX10_comesAct_83 : decode cX10_comesAct 83 = .ok (.invokevirtual 395, 3) := by decide +kernel
theorem dX10_comesAct_86 : decode cX10_comesAct 86 = .ok (.iadd, 1) := by decide +kernel
theorem dX10_comesAct_87 : decode cX10_comesAct 87 = .ok (.ireturn, 1) := by decide +kernel
theorem dX10_comesAct_88 : decode cX10_comesAct 88 = .ok (.aload_n 0, 1) := by decide +kernel
theorem dX10_comesAct_89 : decode cX10_comesAct 89 = .ok (.iload_n 1, 1) := by decide +kernel
theorem dX10_comesAct_90 : decode cX10_comesAct 90 = .ok (.iload_n 2, 1) := by decide +kernel
theorem dX10_comesAct_91 : decode cX10_comesAct 91 = .ok (.invokevirtual 401, 3) := by decide +kernel
theorem dX10_comesAct_94 : decode cX10_comesAct 94 = .ok (.ireturn, 1) := by decide +kernel
theorem dX10_moveTells_0 : decode cX10_moveTells 0 = .ok (.aload_n 0, 1) := by decide +kernel
theorem dX10_moveTells_1 : decode cX10_moveTells 1 = .ok (.bipush 12, 2) := by decide +kernel
theorem dX10_moveTells_3 : decode cX10_moveTells 3 = .ok (.invokevirtual 389, 3) := by decide +kernel
theorem dX10_moveTells_6 : decode cX10_moveTells 6 = .ok (.aload_n 0, 1) := by decide +kernel
theorem dX10_moveTells_7 : decode cX10_moveTells 7 = .ok (.iload_n 1, 1) := by decide +kernel
theorem dX10_moveTells_8 : decode cX10_moveTells 8 = .ok (.iload_n 2, 1) := by decide +kernel
theorem dX10_moveTells_9 : decode cX10_moveTells 9 = .ok (.invokevirtual 407, 3) := by decide +kernel
theorem dX10_moveTells_12 : decode cX10_moveTells 12 = .ok (.iconst 2, 1) := by decide +kernel
theorem dX10_moveTells_13 : decode cX10_moveTells 13 = .ok (.imul, 1) := by decide +kernel
theorem dX10_moveTells_14 : decode cX10_moveTells 14 = .ok (.ireturn, 1) := by decide +kernel
theorem dX10_tellsAct_0 : decode cX10_tellsAct 0 = .ok (.aload_n 0, 1) := by decide +kernel
theorem dX10_tellsAct_1 : decode cX10_tellsAct 1 = .ok (.getfield 22, 3) := by decide +kernel
theorem dX10_tellsAct_4 : decode cX10_tellsAct 4 = .ok (.iload_n 1, 1) := by decide +kernel
theorem dX10_tellsAct_5 : decode cX10_tellsAct 5 = .ok (.iaload, 1) := by decide +kernel
theorem dX10_tellsAct_6 : decode cX10_tellsAct 6 = .ok (.lookupswitch 63 #[(3, 26), (5, 48)], 26) := by decide +kernel
theorem dX10_tellsAct_32 : decode cX10_tellsAct 32 = .ok (.aload_n 0, 1) := by decide +kernel
theorem dX10_tellsAct_33 : decode cX10_tellsAct 33 = .ok (.bipush 40, 2) := by decide +kernel
theorem dX10_tellsAct_35 : decode cX10_tellsAct 35 = .ok (.invokevirtual 389, 3) := by decide +kernel
theorem dX10_tellsAct_38 : decode cX10_tellsAct 38 = .ok (.aload_n 0, 1) := by decide +kernel
theorem dX10_tellsAct_39 : decode cX10_tellsAct 39 = .ok (.iload_n 1, 1) := by decide +kernel
theorem dX10_tellsAct_40 : decode cX10_tellsAct 40 = .ok (.iload_n 2, 1) := by decide +kernel
theorem dX10_tellsAct_41 : decode cX10_tellsAct 41 = .ok (.invokevirtual 410, 3) := by decide +kernel
theorem dX10_tellsAct_44 : decode cX10_tellsAct 44 = .ok (.istore_n 3, 1) := by decide +kernel
theorem dX10_tellsAct_45 : decode cX10_tellsAct 45 = .ok (.iload_n 3, 1) := by decide +kernel
theorem dX10_tellsAct_46 : decode cX10_tellsAct 46 = .ok (.aload_n 0, 1) := by decide +kernel
theorem dX10_tellsAct_47 : decode cX10_tellsAct 47 = .ok (.iload_n 1, 1) := by decide +kernel
theorem dX10_tellsAct_48 : decode cX10_tellsAct 48 = .ok (.iconst 1, 1) := by decide +kernel
theorem dX10_tellsAct_49 : decode cX10_tellsAct 49 = .ok (.invokevirtual 407, 3) := by decide +kernel
theorem dX10_tellsAct_52 : decode cX10_tellsAct 52 = .ok (.iadd, 1) := by decide +kernel
theorem dX10_tellsAct_53 : decode cX10_tellsAct 53 = .ok (.ireturn, 1) := by decide +kernel
theorem dX10_tellsAct_54 : decode cX10_tellsAct 54 = .ok (.aload_n 0, 1) := by decide +kernel
theorem dX10_tellsAct_55 : decode cX10_tellsAct 55 = .ok (.bipush 60, 2) := by decide +kernel
theorem dX10_tellsAct_57 : decode cX10_tellsAct 57 = .ok (.invokevirtual 389, 3) := by decide +kernel
theorem dX10_tellsAct_60 : decode cX10_tellsAct 60 = .ok (.aload_n 0, 1) := by decide +kernel
theorem dX10_tellsAct_61 : decode cX10_tellsAct 61 = .ok (.iload_n 1, 1) := by decide +kernel
theorem dX10_tellsAct_62 : decode cX10_tellsAct 62 = .ok (.iload_n 2, 1) := by decide +kernel
theorem dX10_tellsAct_63 : decode cX10_tellsAct 63 = .ok (.iload_n 1, 1) := by decide +kernel
theorem dX10_tellsAct_64 : decode cX10_tellsAct 64 = .ok (.isub, 1) := by decide +kernel
theorem dX10_tellsAct_65 : decode cX10_tellsAct 65 = .ok (.invokevirtual 410, 3) := by decide +kernel
theorem dX10_tellsAct_68 : decode cX10_tellsAct 68 = .ok (.ireturn, 1) := by decide +kernel
theorem dX10_tellsAct_69 : decode cX10_tellsAct 69 = .ok (.aload_n 0, 1) := by decide +kernel
theorem dX10_tellsAct_70 : decode cX10_tellsAct 70 = .ok (.iload_n 1, 1) := by decide +kernel
theorem dX10_tellsAct_71 : decode cX10_tellsAct 71 = .ok (.iload_n 2, 1) := by decide +kernel
theorem dX10_tellsAct_72 : decode cX10_tellsAct 72 = .ok (.invokevirtual 410, 3) := by decide +kernel
theorem dX10_tellsAct_75 : decode cX10_tellsAct 75 = .ok (.ireturn, 1) := by decide +kernel
theorem dX10_act_0 : decode cX10_act 0 = .ok (.aload_n 0, 1) := by decide +kernel
theorem dX10_act_1 : decode cX10_act 1 = .ok (.iconst 0, 1) := by decide +kernel
theorem dX10_act_2 : decode cX10_act 2 = .ok (.putfield 205, 3) := by decide +kernel
theorem dX10_act_5 : decode cX10_act 5 = .ok (.aload_n 0, 1) := by decide +kernel
theorem dX10_act_6 : decode cX10_act 6 = .ok (.iload_n 1, 1) := by decide +kernel
theorem dX10_act_7 : decode cX10_act 7 = .ok (.invokevirtual 246, 3) := by decide +kernel
theorem dX10_act_10 : decode cX10_act 10 = .ok (.ifCond .eq 13, 3) := by decide +kernel
theorem dX10_act_13 : decode cX10_act 13 = .ok (.aload_n 0, 1) := by decide +kernel
theorem dX10_act_14 : decode cX10_act 14 = .ok (.iload_n 2, 1) := by decide +kernel
theorem dX10_act_15 : decode cX10_act 15 = .ok (.iconst 0, 1) := by decide +kernel
theorem dX10_act_16 : decode cX10_act 16 = .ok (.iconst 2, 1) := by decide +kernel
theorem dX10_act_17 : decode cX10_act 17 = .ok (.invokevirtual 231, 3) := by decide +kernel
theorem dX10_act_20 : decode cX10_act 20 = .ok (.ifCond .ne 5, 3) := by decide +kernel
theorem dX10_act_23 : decode cX10_act 23 = .ok (.iconst 0, 1) := by decide +kernel
theorem dX10_act_24 : decode cX10_act 24 = .ok (.ireturn, 1) := by decide +kernel
theorem dX10_act_25 : decode cX10_act 25 = .ok (.iload_n 2, 1) := by decide +kernel
theorem dX10_act_26 : decode cX10_act 26 = .ok (.ifCond .ne 12, 3) := by decide +kernel
theorem dX10_act_29 : decode cX10_act 29 = .ok (.aload_n 0, 1) := by decide +kernel
theorem dX10_act_30 : decode cX10_act 30 = .ok (.iload_n 1, 1) := by decide +kernel
theorem dX10_act_31 : decode cX10_act 31 = .ok (.iload_n 3, 1) := by decide +kernel
theorem dX10_act_32 : decode cX10_act 32 = .ok (.invokevirtual 398, 3) := by decide +kernel
theorem dX10_act_35 : decode cX10_act 35 = .ok (.goto 23, 3) := by decide +kernel
theorem dX10_act_38 : decode cX10_act 38 = .ok (.iload_n 2, 1) := by decide +kernel
theorem dX10_act_39 : decode cX10_act 39 = .ok (.iconst 1, 1) := by decide +kernel
theorem dX10_act_40 : decode cX10_act 40 = .ok (.if_icmp .ne 12, 3) := by decide +kernel
theorem dX10_act_43 : decode cX10_act 43 = .ok (.aload_n 0, 1) := by decide +kernel
theorem dX10_act_44 : decode cX10_act 44 = .ok (.iload_n 1, 1) := by decide +kernel
theorem dX10_act_45 : decode cX10_act 45 = .ok (.iload_n 3, 1) := by decide +kernel
theorem dX10_act_46 : decode cX10_act 46 = .ok (.invokevirtual 407, 3) := by decide +kernel
theorem dX10_act_49 : decode cX10_act 49 = .ok (.goto 9, 3) := by decide +kernel
theorem dX10_act_52 : decode cX10_act 52 = .ok (.aload_n 0, 1) := by decide +kernel
theorem dX10_act_53 : decode cX10_act 53 = .ok (.iload_n 1, 1) := by decide +kernel
theorem dX10_act_54 : decode cX10_act 54 = .ok (.iload_n 3, 1) := by decide +kernel
theorem dX10_act_55 : decode cX10_act 55 = .ok (.invokevirtual 413, 3) := by decide +kernel
theorem dX10_act_58 : decode cX10_act 58 = .ok (.ireturn, 1) := by decide +kernel
theorem dX10_trace_0 : decode cX10_trace 0 = .ok (.aload_n 0, 1) := by decide +kernel
theorem dX10_trace_1 : decode cX10_trace 1 = .ok (.iload_n 1, 1) := by decide +kernel
theorem dX10_trace_2 : decode cX10_trace 2 = .ok (.iconst 0, 1) := by decide +kernel
theorem dX10_trace_3 : decode cX10_trace 3 = .ok (.bipush 19, 2) := by decide +kernel
theorem dX10_trace_5 : decode cX10_trace 5 = .ok (.invokevirtual 231, 3) := by decide +kernel
theorem dX10_trace_8 : decode cX10_trace 8 = .ok (.ifCond .eq 20, 3) := by decide +kernel
theorem dX10_trace_11 : decode cX10_trace 11 = .ok (.iload_n 1, 1) := by decide +kernel
theorem dX10_trace_12 : decode cX10_trace 12 = .ok (.aload_n 0, 1) := by decide +kernel
theorem dX10_trace_13 : decode cX10_trace 13 = .ok (.getfield 205, 3) := by decide +kernel
theorem dX10_trace_16 : decode cX10_trace 16 = .ok (.if_icmp .ge 12, 3) := by decide +kernel
theorem dX10_trace_19 : decode cX10_trace 19 = .ok (.aload_n 0, 1) := by decide +kernel
theorem dX10_trace_20 : decode cX10_trace 20 = .ok (.getfield 208, 3) := by decide +kernel
theorem dX10_trace_23 : decode cX10_trace 23 = .ok (.iload_n 1, 1) := by decide +kernel
theorem dX10_trace_24 : decode cX10_trace 24 = .ok (.iaload, 1) := by decide +kernel
theorem dX10_trace_25 : decode cX10_trace 25 = .ok (.goto 4, 3) := by decide +kernel
theorem dX10_trace_28 : decode cX10_trace 28 = .ok (.iconst (-1), 1) := by decide +kernel
theorem dX10_trace_29 : decode cX10_trace 29 = .ok (.ireturn, 1) := by decide +kernel
theorem dX10_taken_0 : decode cX10_taken 0 = .ok (.aload_n 0, 1) := by decide +kernel
theorem dX10_taken_1 : decode cX10_taken 1 = .ok (.iload_n 2, 1) := by decide +kernel
theorem dX10_taken_2 : decode cX10_taken 2 = .ok (.iconst 0, 1) := by decide +kernel
theorem dX10_taken_3 : decode cX10_taken 3 = .ok (.bipush 6, 2) := by decide +kernel
theorem dX10_taken_5 : decode cX10_taken 5 = .ok (.invokevirtual 231, 3) := by decide +kernel
theorem dX10_taken_8 : decode cX10_taken 8 = .ok (.ifCond .ne 6, 3) := by decide +kernel
theorem dX10_taken_11 : decode cX10_taken 11 = .ok (.bipush (-2), 2) := by decide +kernel
theorem dX10_taken_13 : decode cX10_taken 13 = .ok (.ireturn, 1) := by decide +kernel
theorem dX10_taken_14 : decode cX10_taken 14 = .ok (.aload_n 0, 1) := by decide +kernel
theorem dX10_taken_15 : decode cX10_taken 15 = .ok (.iload_n 1, 1) := by decide +kernel
theorem dX10_taken_16 : decode cX10_taken 16 = .ok (.invokevirtual 246, 3) := by decide +kernel
theorem dX10_taken_19 : decode cX10_taken 19 = .ok (.ifCond .ne 6, 3) := by decide +kernel
theorem dX10_taken_22 : decode cX10_taken 22 = .ok (.bipush (-11), 2) := by decide +kernel
theorem dX10_taken_24 : decode cX10_taken 24 = .ok (.ireturn, 1) := by decide +kernel
theorem dX10_taken_25 : decode cX10_taken 25 = .ok (.aload_n 0, 1) := by decide +kernel
theorem dX10_taken_26 : decode cX10_taken 26 = .ok (.getfield 22, 3) := by decide +kernel
theorem dX10_taken_29 : decode cX10_taken 29 = .ok (.iload_n 1, 1) := by decide +kernel
theorem dX10_taken_30 : decode cX10_taken 30 = .ok (.iaload, 1) := by decide +kernel
theorem dX10_taken_31 : decode cX10_taken 31 = .ok (.istore_n 3, 1) := by decide +kernel
theorem dX10_taken_32 : decode cX10_taken 32 = .ok (.iload_n 2, 1) := by decide +kernel
theorem dX10_taken_33 : decode cX10_taken 33 = .ok (.ifCond .eq 34, 3) := by decide +kernel
theorem dX10_taken_36 : decode cX10_taken 36 = .ok (.iload_n 3, 1) := by decide +kernel
theorem dX10_taken_37 : decode cX10_taken 37 = .ok (.iload_n 2, 1) := by decide +kernel
theorem dX10_taken_38 : decode cX10_taken 38 = .ok (.if_icmp .eq 29, 3) := by decide +kernel
theorem dX10_taken_41 : decode cX10_taken 41 = .ok (.iload_n 2, 1) := by decide +kernel
theorem dX10_taken_42 : decode cX10_taken 42 = .ok (.iconst 1, 1) := by decide +kernel
theorem dX10_taken_43 : decode cX10_taken 43 = .ok (.if_icmp .ne 13, 3) := by decide +kernel
theorem dX10_taken_46 : decode cX10_taken 46 = .ok (.iload_n 3, 1) := by decide +kernel
theorem dX10_taken_47 : decode cX10_taken 47 = .ok (.iconst 4, 1) := by decide +kernel
theorem dX10_taken_48 : decode cX10_taken 48 = .ok (.if_icmp .eq 19, 3) := by decide +kernel
theorem dX10_taken_51 : decode cX10_taken 51 = .ok (.iload_n 3, 1) := by decide +kernel
theorem dX10_taken_52 : decode cX10_taken 52 = .ok (.iconst 5, 1) := by decide +kernel
theorem dX10_taken_53 : decode cX10_taken 53 = .ok (.if_icmp .eq 14, 3) := by decide +kernel
theorem dX10_taken_56 : decode cX10_taken 56 = .ok (.iload_n 2, 1) := by decide +kernel
theorem dX10_taken_57 : decode cX10_taken 57 = .ok (.iconst 2, 1) := by decide +kernel
theorem dX10_taken_58 : decode cX10_taken 58 = .ok (.if_icmp .ne 13, 3) := by decide +kernel
theorem dX10_taken_61 : decode cX10_taken 61 = .ok (.iload_n 3, 1) := by decide +kernel
theorem dX10_taken_62 : decode cX10_taken 62 = .ok (.bipush 6, 2) := by decide +kernel
theorem dX10_taken_64 : decode cX10_taken 64 = .ok (.if_icmp .ne 7, 3) := by decide +kernel
theorem dX10_taken_67 : decode cX10_taken 67 = .ok (.iload_n 3, 1) := by decide +kernel
theorem dX10_taken_68 : decode cX10_taken 68 = .ok (.goto 5, 3) := by decide +kernel
theorem dX10_taken_71 : decode cX10_taken 71 = .ok (.bipush (-12), 2) := by decide +kernel
theorem dX10_taken_73 : decode cX10_taken 73 = .ok (.ireturn, 1) := by decide +kernel
theorem dX10_count_0 : decode cX10_count 0 = .ok (.iload_n 1, 1) := by decide +kernel
theorem dX10_count_1 : decode cX10_count 1 = .ok (.tableswitch 87 0 7 #[47, 52, 57, 62, 67, 72, 77, 82], 47) := by decide +kernel
theorem dX10_count_48 : decode cX10_count 48 = .ok (.aload_n 0, 1) := by decide +kernel
theorem dX10_count_49 : decode cX10_count 49 = .ok (.getfield 7, 3) := by decide +kernel
theorem dX10_count_52 : decode cX10_count 52 = .ok (.ireturn, 1) := by decide +kernel
theorem dX10_count_53 : decode cX10_count 53 = .ok (.aload_n 0, 1) := by decide +kernel
theorem dX10_count_54 : decode cX10_count 54 = .ok (.getfield 41, 3) := by decide +kernel
theorem dX10_count_57 : decode cX10_count 57 = .ok (.ireturn, 1) := by decide +kernel
theorem dX10_count_58 : decode cX10_count 58 = .ok (.aload_n 0, 1) := by decide +kernel
theorem dX10_count_59 : decode cX10_count 59 = .ok (.getfield 126, 3) := by decide +kernel
theorem dX10_count_62 : decode cX10_count 62 = .ok (.ireturn, 1) := by decide +kernel
theorem dX10_count_63 : decode cX10_count 63 = .ok (.aload_n 0, 1) := by decide +kernel
theorem dX10_count_64 : decode cX10_count 64 = .ok (.getfield 150, 3) := by decide +kernel
theorem dX10_count_67 : decode cX10_count 67 = .ok (.ireturn, 1) := by decide +kernel
theorem dX10_count_68 : decode cX10_count 68 = .ok (.aload_n 0, 1) := by decide +kernel
theorem dX10_count_69 : decode cX10_count 69 = .ok (.getfield 47, 3) := by decide +kernel
theorem dX10_count_72 : decode cX10_count 72 = .ok (.ireturn, 1) := by decide +kernel
theorem dX10_count_73 : decode cX10_count 73 = .ok (.aload_n 0, 1) := by decide +kernel
theorem dX10_count_74 : decode cX10_count 74 = .ok (.getfield 16, 3) := by decide +kernel
theorem dX10_count_77 : decode cX10_count 77 = .ok (.ireturn, 1) := by decide +kernel
theorem dX10_count_78 : decode cX10_count 78 = .ok (.aload_n 0, 1) := by decide +kernel
theorem dX10_count_79 : decode cX10_count 79 = .ok (.getfield 205, 3) := by decide +kernel
theorem dX10_count_82 : decode cX10_count 82 = .ok (.ireturn, 1) := by decide +kernel
theorem dX10_count_83 : decode cX10_count 83 = .ok (.aload_n 0, 1) := by decide +kernel
theorem dX10_count_84 : decode cX10_count 84 = .ok (.getfield 13, 3) := by decide +kernel
theorem dX10_count_87 : decode cX10_count 87 = .ok (.ireturn, 1) := by decide +kernel
theorem dX10_count_88 : decode cX10_count 88 = .ok (.bipush (-2), 2) := by decide +kernel
theorem dX10_count_90 : decode cX10_count 90 = .ok (.ireturn, 1) := by decide +kernel
theorem dX10_isTape_0 : decode cX10_isTape 0 = .ok (.aload_n 0, 1) := by decide +kernel
theorem dX10_isTape_1 : decode cX10_isTape 1 = .ok (.iload_n 1, 1) := by decide +kernel
theorem dX10_isTape_2 : decode cX10_isTape 2 = .ok (.iconst 0, 1) := by decide +kernel
theorem dX10_isTape_3 : decode cX10_isTape 3 = .ok (.iconst 5, 1) := by decide +kernel
theorem dX10_isTape_4 : decode cX10_isTape 4 = .ok (.invokevirtual 231, 3) := by decide +kernel
theorem dX10_isTape_7 : decode cX10_isTape 7 = .ok (.ireturn, 1) := by decide +kernel
theorem dX10_tape_0 : decode cX10_tape 0 = .ok (.aload_n 0, 1) := by decide +kernel
theorem dX10_tape_1 : decode cX10_tape 1 = .ok (.iload_n 1, 1) := by decide +kernel
theorem dX10_tape_2 : decode cX10_tape 2 = .ok (.invokevirtual 382, 3) := by decide +kernel
theorem dX10_tape_5 : decode cX10_tape 5 = .ok (.ifCond .ne 5, 3) := by decide +kernel
theorem dX10_tape_8 : decode cX10_tape 8 = .ok (.iconst (-1), 1) := by decide +kernel
theorem dX10_tape_9 : decode cX10_tape 9 = .ok (.ireturn, 1) := by decide +kernel
theorem dX10_tape_10 : decode cX10_tape 10 = .ok (.aload_n 0, 1) := by decide +kernel
theorem dX10_tape_11 : decode cX10_tape 11 = .ok (.iload_n 2, 1) := by decide +kernel
theorem dX10_tape_12 : decode cX10_tape 12 = .ok (.iconst (-1), 1) := by decide +kernel
theorem dX10_tape_13 : decode cX10_tape 13 = .ok (.iconst 4, 1) := by decide +kernel
theorem dX10_tape_14 : decode cX10_tape 14 = .ok (.invokevirtual 231, 3) := by decide +kernel
theorem dX10_tape_17 : decode cX10_tape 17 = .ok (.ifCond .eq 13, 3) := by decide +kernel
theorem dX10_tape_20 : decode cX10_tape 20 = .ok (.iload_n 2, 1) := by decide +kernel
theorem dX10_tape_21 : decode cX10_tape 21 = .ok (.ifCond .lt 12, 3) := by decide +kernel
theorem dX10_tape_24 : decode cX10_tape 24 = .ok (.iload_n 3, 1) := by decide +kernel
theorem dX10_tape_25 : decode cX10_tape 25 = .ok (.bipush 60, 2) := by decide +kernel
theorem dX10_tape_27 : decode cX10_tape 27 = .ok (.if_icmp .le 6, 3) := by decide +kernel
theorem dX10_tape_30 : decode cX10_tape 30 = .ok (.bipush (-2), 2) := by decide +kernel
theorem dX10_tape_32 : decode cX10_tape 32 = .ok (.ireturn, 1) := by decide +kernel
theorem dX10_tape_33 : decode cX10_tape 33 = .ok (.iload_n 2, 1) := by decide +kernel
theorem dX10_tape_34 : decode cX10_tape 34 = .ok (.ifCond .lt 10, 3) := by decide +kernel
theorem dX10_tape_37 : decode cX10_tape 37 = .ok (.iload_n 3, 1) := by decide +kernel
theorem dX10_tape_38 : decode cX10_tape 38 = .ok (.ifCond .ge 6, 3) := by decide +kernel
theorem dX10_tape_41 : decode cX10_tape 41 = .ok (.bipush (-14), 2) := by decide +kernel
theorem dX10_tape_43 : decode cX10_tape 43 = .ok (.ireturn, 1) := by decide +kernel
theorem dX10_tape_44 : decode cX10_tape 44 = .ok (.aload_n 0, 1) := by decide +kernel
theorem dX10_tape_45 : decode cX10_tape 45 = .ok (.getfield 211, 3) := by decide +kernel
theorem dX10_tape_48 : decode cX10_tape 48 = .ok (.iload_n 1, 1) := by decide +kernel
theorem dX10_tape_49 : decode cX10_tape 49 = .ok (.iload_n 2, 1) := by decide +kernel
theorem dX10_tape_50 : decode cX10_tape 50 = .ok (.iastore, 1) := by decide +kernel
theorem dX10_tape_51 : decode cX10_tape 51 = .ok (.aload_n 0, 1) := by decide +kernel
theorem dX10_tape_52 : decode cX10_tape 52 = .ok (.getfield 214, 3) := by decide +kernel
theorem dX10_tape_55 : decode cX10_tape 55 = .ok (.iload_n 1, 1) := by decide +kernel
theorem dX10_tape_56 : decode cX10_tape 56 = .ok (.iload_n 2, 1) := by decide +kernel
theorem dX10_tape_57 : decode cX10_tape 57 = .ok (.ifCond .ge 7, 3) := by decide +kernel
theorem dX10_tape_60 : decode cX10_tape 60 = .ok (.iconst 0, 1) := by decide +kernel
theorem dX10_tape_61 : decode cX10_tape 61 = .ok (.goto 4, 3) := by decide +kernel
theorem dX10_tape_64 : decode cX10_tape 64 = .ok (.iload_n 3, 1) := by decide +kernel
theorem dX10_tape_65 : decode cX10_tape 65 = .ok (.iastore, 1) := by decide +kernel
theorem dX10_tape_66 : decode cX10_tape 66 = .ok (.iconst 0, 1) := by decide +kernel
theorem dX10_tape_67 : decode cX10_tape 67 = .ok (.istore 4, 2) := by decide +kernel
theorem dX10_tape_69 : decode cX10_tape 69 = .ok (.iload 4, 2) := by decide +kernel
theorem dX10_tape_71 : decode cX10_tape 71 = .ok (.bipush 60, 2) := by decide +kernel
theorem dX10_tape_73 : decode cX10_tape 73 = .ok (.if_icmp .ge 22, 3) := by decide +kernel
theorem dX10_tape_76 : decode cX10_tape 76 = .ok (.aload_n 0, 1) := by decide +kernel
theorem dX10_tape_77 : decode cX10_tape 77 = .ok (.getfield 217, 3) := by decide +kernel
theorem dX10_tape_80 : decode cX10_tape 80 = .ok (.bipush 60, 2) := by decide +kernel
theorem dX10_tape_82 : decode cX10_tape 82 = .ok (.iload_n 1, 1) := by decide +kernel
theorem dX10_tape_83 : decode cX10_tape 83 = .ok (.imul, 1) := by decide +kernel
theorem dX10_tape_84 : decode cX10_tape 84 = .ok (.iload 4, 2) := by decide +kernel
theorem dX10_tape_86 : decode cX10_tape 86 = .ok (.iadd, 1) := by decide +kernel
theorem dX10_tape_87 : decode cX10_tape 87 = .ok (.lconst 0, 1) := by decide +kernel
theorem dX10_tape_88 : decode cX10_tape 88 = .ok (.lastore, 1) := by decide +kernel
theorem dX10_tape_89 : decode cX10_tape 89 = .ok (.iinc 4 1, 3) := by decide +kernel
theorem dX10_tape_92 : decode cX10_tape 92 = .ok (.goto (-23), 3) := by decide +kernel
theorem dX10_tape_95 : decode cX10_tape 95 = .ok (.iconst 1, 1) := by decide +kernel
theorem dX10_tape_96 : decode cX10_tape 96 = .ok (.ireturn, 1) := by decide +kernel
theorem dX10_narrow_0 : decode cX10_narrow 0 = .ok (.iload_n 1, 1) := by decide +kernel
theorem dX10_narrow_1 : decode cX10_narrow 1 = .ok (.ifCond .ne 10, 3) := by decide +kernel
theorem dX10_narrow_4 : decode cX10_narrow 4 = .ok (.lload_n 2, 1) := by decide +kernel
theorem dX10_narrow_5 : decode cX10_narrow 5 = .ok (.l2i, 1) := by decide +kernel
theorem dX10_narrow_6 : decode cX10_narrow 6 = .ok (.i2b, 1) := by decide +kernel
theorem dX10_narrow_7 : decode cX10_narrow 7 = .ok (.i2l, 1) := by decide +kernel
theorem dX10_narrow_8 : decode cX10_narrow 8 = .ok (.goto 46, 3) := by decide +kernel
theorem dX10_narrow_11 : decode cX10_narrow 11 = .ok (.iload_n 1, 1) := by decide +kernel
theorem dX10_narrow_12 : decode cX10_narrow 12 = .ok (.iconst 1, 1) := by decide +kernel
theorem dX10_narrow_13 : decode cX10_narrow 13 = .ok (.if_icmp .ne 10, 3) := by decide +kernel
theorem dX10_narrow_16 : decode cX10_narrow 16 = .ok (.lload_n 2, 1) := by decide +kernel
theorem dX10_narrow_17 : decode cX10_narrow 17 = .ok (.l2i, 1) := by decide +kernel
theorem dX10_narrow_18 : decode cX10_narrow 18 = .ok (.i2s, 1) := by decide +kernel
theorem dX10_narrow_19 : decode cX10_narrow 19 = .ok (.i2l, 1) := by decide +kernel
theorem dX10_narrow_20 : decode cX10_narrow 20 = .ok (.goto 34, 3) := by decide +kernel
theorem dX10_narrow_23 : decode cX10_narrow 23 = .ok (.iload_n 1, 1) := by decide +kernel
theorem dX10_narrow_24 : decode cX10_narrow 24 = .ok (.iconst 2, 1) := by decide +kernel
theorem dX10_narrow_25 : decode cX10_narrow 25 = .ok (.if_icmp .ne 9, 3) := by decide +kernel
theorem dX10_narrow_28 : decode cX10_narrow 28 = .ok (.lload_n 2, 1) := by decide +kernel
theorem dX10_narrow_29 : decode cX10_narrow 29 = .ok (.l2i, 1) := by decide +kernel
theorem dX10_narrow_30 : decode cX10_narrow 30 = .ok (.i2l, 1) := by decide +kernel
theorem dX10_narrow_31 : decode cX10_narrow 31 = .ok (.goto 23, 3) := by decide +kernel
theorem dX10_narrow_34 : decode cX10_narrow 34 = .ok (.iload_n 1, 1) := by decide +kernel
theorem dX10_narrow_35 : decode cX10_narrow 35 = .ok (.iconst 4, 1) := by decide +kernel
theorem dX10_narrow_36 : decode cX10_narrow 36 = .ok (.if_icmp .ne 17, 3) := by decide +kernel
theorem dX10_narrow_39 : decode cX10_narrow 39 = .ok (.lload_n 2, 1) := by decide +kernel
theorem dX10_narrow_40 : decode cX10_narrow 40 = .ok (.lconst 0, 1) := by decide +kernel
theorem dX10_narrow_41 : decode cX10_narrow 41 = .ok (.lcmp, 1) := by decide +kernel
theorem dX10_narrow_42 : decode cX10_narrow 42 = .ok (.ifCond .eq 7, 3) := by decide +kernel
theorem dX10_narrow_45 : decode cX10_narrow 45 = .ok (.lconst 1, 1) := by decide +kernel
theorem dX10_narrow_46 : decode cX10_narrow 46 = .ok (.goto 8, 3) := by decide +kernel
theorem dX10_narrow_49 : decode cX10_narrow 49 = .ok (.lconst 0, 1) := by decide +kernel
theorem dX10_narrow_50 : decode cX10_narrow 50 = .ok (.goto 4, 3) := by decide +kernel
theorem dX10_narrow_53 : decode cX10_narrow 53 = .ok (.lload_n 2, 1) := by decide +kernel
theorem dX10_narrow_54 : decode cX10_narrow 54 = .ok (.lreturn, 1) := by decide +kernel
theorem dX10_item_0 : decode cX10_item 0 = .ok (.aload_n 0, 1) := by decide +kernel
theorem dX10_item_1 : decode cX10_item 1 = .ok (.iload_n 1, 1) := by decide +kernel
theorem dX10_item_2 : decode cX10_item 2 = .ok (.invokevirtual 382, 3) := by decide +kernel
theorem dX10_item_5 : decode cX10_item 5 = .ok (.ifCond .ne 5, 3) := by decide +kernel
theorem dX10_item_8 : decode cX10_item 8 = .ok (.iconst (-1), 1) := by decide +kernel
theorem dX10_item_9 : decode cX10_item 9 = .ok (.ireturn, 1) := by decide +kernel
theorem dX10_item_10 : decode cX10_item 10 = .ok (.aload_n 0, 1) := by decide +kernel
theorem dX10_item_11 : decode cX10_item 11 = .ok (.getfield 211, 3) := by decide +kernel
theorem dX10_item_14 : decode cX10_item 14 = .ok (.iload_n 1, 1) := by decide +kernel
theorem dX10_item_15 : decode cX10_item 15 = .ok (.iaload, 1) := by decide +kernel
theorem dX10_item_16 : decode cX10_item 16 = .ok (.ifCond .ge 6, 3) := by decide +kernel
theorem dX10_item_19 : decode cX10_item 19 = .ok (.bipush (-11), 2) := by decide +kernel
theorem dX10_item_21 : decode cX10_item 21 = .ok (.ireturn, 1) := by decide +kernel
theorem dX10_item_22 : decode cX10_item 22 = .ok (.aload_n 0, 1) := by decide +kernel
theorem dX10_item_23 : decode cX10_item 23 = .ok (.iload_n 2, 1) := by decide +kernel
theorem dX10_item_24 : decode cX10_item 24 = .ok (.iconst 0, 1) := by decide +kernel
theorem dX10_item_25 : decode cX10_item 25 = .ok (.aload_n 0, 1) := by decide +kernel
theorem dX10_item_26 : decode cX10_item 26 = .ok (.getfield 214, 3) := by decide +kernel
theorem dX10_item_29 : decode cX10_item 29 = .ok (.iload_n 1, 1) := by decide +kernel
theorem dX10_item_30 : decode cX10_item 30 = .ok (.iaload, 1) := by decide +kernel
theorem dX10_item_31 : decode cX10_item 31 = .ok (.iconst 1, 1) := by decide +kernel
theorem dX10_item_32 : decode cX10_item 32 = .ok (.isub, 1) := by decide +kernel
theorem dX10_item_33 : decode cX10_item 33 = .ok (.invokevirtual 231, 3) := by decide +kernel
theorem dX10_item_36 : decode cX10_item 36 = .ok (.ifCond .ne 6, 3) := by decide +kernel
theorem dX10_item_39 : decode cX10_item 39 = .ok (.bipush (-13), 2) := by decide +kernel
theorem dX10_item_41 : decode cX10_item 41 = .ok (.ireturn, 1) := by decide +kernel
theorem dX10_item_42 : decode cX10_item 42 = .ok (.aload_n 0, 1) := by decide +kernel
theorem dX10_item_43 : decode cX10_item 43 = .ok (.getfield 217, 3) := by decide +kernel
theorem dX10_item_46 : decode cX10_item 46 = .ok (.bipush 60, 2) := by decide +kernel
theorem dX10_item_48 : decode cX10_item 48 = .ok (.iload_n 1, 1) := by decide +kernel
theorem dX10_item_49 : decode cX10_item 49 = .ok (.imul, 1) := by decide +kernel
theorem dX10_item_50 : decode cX10_item 50 = .ok (.iload_n 2, 1) := by decide +kernel
theorem dX10_item_51 : decode cX10_item 51 = .ok (.iadd, 1) := by decide +kernel
theorem dX10_item_52 : decode cX10_item 52 = .ok (.aload_n 0, 1) := by decide +kernel
theorem dX10_item_53 : decode cX10_item 53 = .ok (.aload_n 0, 1) := by decide +kernel
theorem dX10_item_54 : decode cX10_item 54 = .ok (.getfield 211, 3) := by decide +kernel
theorem dX10_item_57 : decode cX10_item 57 = .ok (.iload_n 1, 1) := by decide +kernel
theorem dX10_item_58 : decode cX10_item 58 = .ok (.iaload, 1) := by decide +kernel
theorem dX10_item_59 : decode cX10_item 59 = .ok (.lload_n 3, 1) := by decide +kernel
theorem dX10_item_60 : decode cX10_item 60 = .ok (.invokevirtual 416, 3) := by decide +kernel
theorem dX10_item_63 : decode cX10_item 63 = .ok (.lastore, 1) := by decide +kernel
theorem dX10_item_64 : decode cX10_item 64 = .ok (.iconst 1, 1) := by decide +kernel
theorem dX10_item_65 : decode cX10_item 65 = .ok (.ireturn, 1) := by decide +kernel
theorem dX10_read_0 : decode cX10_read 0 = .ok (.aload_n 0, 1) := by decide +kernel
theorem dX10_read_1 : decode cX10_read 1 = .ok (.iload_n 1, 1) := by decide +kernel
theorem dX10_read_2 : decode cX10_read 2 = .ok (.invokevirtual 382, 3) := by decide +kernel
theorem dX10_read_5 : decode cX10_read 5 = .ok (.ifCond .eq 29, 3) := by decide +kernel
theorem dX10_read_8 : decode cX10_read 8 = .ok (.aload_n 0, 1) := by decide +kernel
theorem dX10_read_9 : decode cX10_read 9 = .ok (.getfield 211, 3) := by decide +kernel
theorem dX10_read_12 : decode cX10_read 12 = .ok (.iload_n 1, 1) := by decide +kernel
theorem dX10_read_13 : decode cX10_read 13 = .ok (.iaload, 1) := by decide +kernel
theorem dX10_read_14 : decode cX10_read 14 = .ok (.ifCond .lt 20, 3) := by decide +kernel
theorem dX10_read_17 : decode cX10_read 17 = .ok (.aload_n 0, 1) := by decide +kernel
theorem dX10_read_18 : decode cX10_read 18 = .ok (.iload_n 2, 1) := by decide +kernel
theorem dX10_read_19 : decode cX10_read 19 = .ok (.iconst 0, 1) := by decide +kernel
theorem dX10_read_20 : decode cX10_read 20 = .ok (.aload_n 0, 1) := by decide +kernel
theorem dX10_read_21 : decode cX10_read 21 = .ok (.getfield 214, 3) := by decide +kernel
theorem dX10_read_24 : decode cX10_read 24 = .ok (.iload_n 1, 1) := by decide +kernel
theorem dX10_read_25 : decode cX10_read 25 = .ok (.iaload, 1) := by decide +kernel
theorem dX10_read_26 : decode cX10_read 26 = .ok (.iconst 1, 1) := by decide +kernel
theorem dX10_read_27 : decode cX10_read 27 = .ok (.isub, 1) := by decide +kernel
theorem dX10_read_28 : decode cX10_read 28 = .ok (.invokevirtual 231, 3) := by decide +kernel
theorem dX10_read_31 : decode cX10_read 31 = .ok (.ifCond .ne 9, 3) := by decide +kernel
theorem dX10_read_34 : decode cX10_read 34 = .ok (.ldc2_w 371, 3) := by decide +kernel
theorem dX10_read_37 : decode cX10_read 37 = .ok (.goto 14, 3) := by decide +kernel
theorem dX10_read_40 : decode cX10_read 40 = .ok (.aload_n 0, 1) := by decide +kernel
theorem dX10_read_41 : decode cX10_read 41 = .ok (.getfield 217, 3) := by decide +kernel
theorem dX10_read_44 : decode cX10_read 44 = .ok (.bipush 60, 2) := by decide +kernel
theorem dX10_read_46 : decode cX10_read 46 = .ok (.iload_n 1, 1) := by decide +kernel
theorem dX10_read_47 : decode cX10_read 47 = .ok (.imul, 1) := by decide +kernel
theorem dX10_read_48 : decode cX10_read 48 = .ok (.iload_n 2, 1) := by decide +kernel
theorem dX10_read_49 : decode cX10_read 49 = .ok (.iadd, 1) := by decide +kernel
theorem dX10_read_50 : decode cX10_read 50 = .ok (.laload, 1) := by decide +kernel
theorem dX10_read_51 : decode cX10_read 51 = .ok (.lreturn, 1) := by decide +kernel
theorem dX10_shift_0 : decode cX10_shift 0 = .ok (.aload_n 0, 1) := by decide +kernel
theorem dX10_shift_1 : decode cX10_shift 1 = .ok (.iload_n 1, 1) := by decide +kernel
theorem dX10_shift_2 : decode cX10_shift 2 = .ok (.invokevirtual 382, 3) := by decide +kernel
theorem dX10_shift_5 : decode cX10_shift 5 = .ok (.ifCond .eq 11, 3) := by decide +kernel
theorem dX10_shift_8 : decode cX10_shift 8 = .ok (.aload_n 0, 1) := by decide +kernel
theorem dX10_shift_9 : decode cX10_shift 9 = .ok (.iload_n 3, 1) := by decide +kernel
theorem dX10_shift_10 : decode cX10_shift 10 = .ok (.invokevirtual 382, 3) := by decide +kernel
theorem dX10_shift_13 : decode cX10_shift 13 = .ok (.ifCond .ne 5, 3) := by decide +kernel
theorem dX10_shift_16 : decode cX10_shift 16 = .ok (.iconst (-1), 1) := by decide +kernel
theorem dX10_shift_17 : decode cX10_shift 17 = .ok (.ireturn, 1) := by decide +kernel
theorem dX10_shift_18 : decode cX10_shift 18 = .ok (.aload_n 0, 1) := by decide +kernel
theorem dX10_shift_19 : decode cX10_shift 19 = .ok (.getfield 211, 3) := by decide +kernel
theorem dX10_shift_22 : decode cX10_shift 22 = .ok (.iload_n 1, 1) := by decide +kernel
theorem dX10_shift_23 : decode cX10_shift 23 = .ok (.iaload, 1) := by decide +kernel
theorem dX10_shift_24 : decode cX10_shift 24 = .ok (.ifCond .lt 12, 3) := by decide +kernel
theorem dX10_shift_27 : decode cX10_shift 27 = .ok (.aload_n 0, 1) := by decide +kernel
theorem dX10_shift_28 : decode cX10_shift 28 = .ok (.getfield 211, 3) := by decide +kernel
theorem dX10_shift_31 : decode cX10_shift 31 = .ok (.iload_n 3, 1) := by decide +kernel
theorem dX10_shift_32 : decode cX10_shift 32 = .ok (.iaload, 1) := by decide +kernel
theorem dX10_shift_33 : decode cX10_shift 33 = .ok (.ifCond .ge 6, 3) := by decide +kernel
theorem dX10_shift_36 : decode cX10_shift 36 = .ok (.bipush (-11), 2) := by decide +kernel
theorem dX10_shift_38 : decode cX10_shift 38 = .ok (.ireturn, 1) := by decide +kernel
theorem dX10_shift_39 : decode cX10_shift 39 = .ok (.aload_n 0, 1) := by decide +kernel
theorem dX10_shift_40 : decode cX10_shift 40 = .ok (.getfield 211, 3) := by decide +kernel
theorem dX10_shift_43 : decode cX10_shift 43 = .ok (.iload_n 1, 1) := by decide +kernel
theorem dX10_shift_44 : decode cX10_shift 44 = .ok (.iaload, 1) := by decide +kernel
theorem dX10_shift_45 : decode cX10_shift 45 = .ok (.aload_n 0, 1) := by decide +kernel
theorem dX10_shift_46 : decode cX10_shift 46 = .ok (.getfield 211, 3) := by decide +kernel
theorem dX10_shift_49 : decode cX10_shift 49 = .ok (.iload_n 3, 1) := by decide +kernel
theorem dX10_shift_50 : decode cX10_shift 50 = .ok (.iaload, 1) := by decide +kernel
theorem dX10_shift_51 : decode cX10_shift 51 = .ok (.if_icmp .eq 6, 3) := by decide +kernel
theorem dX10_shift_54 : decode cX10_shift 54 = .ok (.bipush (-12), 2) := by decide +kernel
theorem dX10_shift_56 : decode cX10_shift 56 = .ok (.ireturn, 1) := by decide +kernel
theorem dX10_shift_57 : decode cX10_shift 57 = .ok (.iload 5, 2) := by decide +kernel
theorem dX10_shift_59 : decode cX10_shift 59 = .ok (.ifCond .lt 39, 3) := by decide +kernel
theorem dX10_shift_62 : decode cX10_shift 62 = .ok (.iload_n 2, 1) := by decide +kernel
theorem dX10_shift_63 : decode cX10_shift 63 = .ok (.ifCond .lt 35, 3) := by decide +kernel
theorem dX10_shift_66 : decode cX10_shift 66 = .ok (.iload 4, 2) := by decide +kernel
theorem dX10_shift_68 : decode cX10_shift 68 = .ok (.ifCond .lt 30, 3) := by decide +kernel
theorem dX10_shift_71 : decode cX10_shift 71 = .ok (.iload_n 2, 1) := by decide +kernel
theorem dX10_shift_72 : decode cX10_shift 72 = .ok (.aload_n 0, 1) := by decide +kernel
theorem dX10_shift_73 : decode cX10_shift 73 = .ok (.getfield 214, 3) := by decide +kernel
theorem dX10_shift_76 : decode cX10_shift 76 = .ok (.iload_n 1, 1) := by decide +kernel
theorem dX10_shift_77 : decode cX10_shift 77 = .ok (.iaload, 1) := by decide +kernel
theorem dX10_shift_78 : decode cX10_shift 78 = .ok (.iload 5, 2) := by decide +kernel
theorem dX10_shift_80 : decode cX10_shift 80 = .ok (.isub, 1) := by decide +kernel
theorem dX10_shift_81 : decode cX10_shift 81 = .ok (.if_icmp .gt 17, 3) := by decide +kernel
theorem dX10_shift_84 : decode cX10_shift 84 = .ok (.iload 4, 2) := by decide +kernel
theorem dX10_shift_86 : decode cX10_shift 86 = .ok (.aload_n 0, 1) := by decide +kernel
theorem dX10_shift_87 : decode cX10_shift 87 = .ok (.getfield 214, 3) := by decide +kernel
theorem dX10_shift_90 : decode cX10_shift 90 = .ok (.iload_n 3, 1) := by decide +kernel
theorem dX10_shift_91 : decode cX10_shift 91 = .ok (.iaload, 1) := by decide +kernel
theorem dX10_shift_92 : decode cX10_shift 92 = .ok (.iload 5, 2) := by decide +kernel
theorem dX10_shift_94 : decode cX10_shift 94 = .ok (.isub, 1) := by decide +kernel
theorem dX10_shift_95 : decode cX10_shift 95 = .ok (.if_icmp .le 6, 3) := by decide +kernel
theorem dX10_shift_98 : decode cX10_shift 98 = .ok (.bipush (-13), 2) := by decide +kernel
theorem dX10_shift_100 : decode cX10_shift 100 = .ok (.ireturn, 1) := by decide +kernel
theorem dX10_shift_101 : decode cX10_shift 101 = .ok (.iconst 0, 1) := by decide +kernel
theorem dX10_shift_102 : decode cX10_shift 102 = .ok (.istore 6, 2) := by decide +kernel
theorem dX10_shift_104 : decode cX10_shift 104 = .ok (.iload 6, 2) := by decide +kernel
theorem dX10_shift_106 : decode cX10_shift 106 = .ok (.iload 5, 2) := by decide +kernel
theorem dX10_shift_108 : decode cX10_shift 108 = .ok (.if_icmp .ge 30, 3) := by decide +kernel
theorem dX10_shift_111 : decode cX10_shift 111 = .ok (.aload_n 0, 1) := by decide +kernel
theorem dX10_shift_112 : decode cX10_shift 112 = .ok (.getfield 221, 3) := by decide +kernel
theorem dX10_shift_115 : decode cX10_shift 115 = .ok (.iload 6, 2) := by decide +kernel
theorem dX10_shift_117 : decode cX10_shift 117 = .ok (.aload_n 0, 1) := by decide +kernel
theorem dX10_shift_118 : decode cX10_shift 118 = .ok (.getfield 217, 3) := by decide +kernel
theorem dX10_shift_121 : decode cX10_shift 121 = .ok (.bipush 60, 2) := by decide +kernel
theorem dX10_shift_123 : decode cX10_shift 123 = .ok (.iload_n 1, 1) := by decide +kernel
theorem dX10_shift_124 : decode cX10_shift 124 = .ok (.imul, 1) := by decide +kernel
theorem dX10_shift_125 : decode cX10_shift 125 = .ok (.iload_n 2, 1) := by decide +kernel
theorem dX10_shift_126 : decode cX10_shift 126 = .ok (.iadd, 1) := by decide +kernel
theorem dX10_shift_127 : decode cX10_shift 127 = .ok (.iload 6, 2) := by decide +kernel
theorem dX10_shift_129 : decode cX10_shift 129 = .ok (.iadd, 1) := by decide +kernel
theorem dX10_shift_130 : decode cX10_shift 130 = .ok (.laload, 1) := by decide +kernel
theorem dX10_shift_131 : decode cX10_shift 131 = .ok (.lastore, 1) := by decide +kernel
theorem dX10_shift_132 : decode cX10_shift 132 = .ok (.iinc 6 1, 3) := by decide +kernel
theorem dX10_shift_135 : decode cX10_shift 135 = .ok (.goto (-31), 3) := by decide +kernel
theorem dX10_shift_138 : decode cX10_shift 138 = .ok (.iconst 0, 1) := by decide +kernel
theorem dX10_shift_139 : decode cX10_shift 139 = .ok (.istore 6, 2) := by decide +kernel
theorem dX10_shift_141 : decode cX10_shift 141 = .ok (.iload 6, 2) := by decide +kernel
theorem dX10_shift_143 : decode cX10_shift 143 = .ok (.iload 5, 2) := by decide +kernel
theorem dX10_shift_145 : decode cX10_shift 145 = .ok (.if_icmp .ge 31, 3) := by decide +kernel
theorem dX10_shift_148 : decode cX10_shift 148 = .ok (.aload_n 0, 1) := by decide +kernel
theorem dX10_shift_149 : decode cX10_shift 149 = .ok (.getfield 217, 3) := by decide +kernel
theorem dX10_shift_152 : decode cX10_shift 152 = .ok (.bipush 60, 2) := by decide +kernel
theorem dX10_shift_154 : decode cX10_shift 154 = .ok (.iload_n 3, 1) := by decide +kernel
theorem dX10_shift_155 : decode cX10_shift 155 = .ok (.imul, 1) := by decide +kernel
theorem dX10_shift_156 : decode cX10_shift 156 = .ok (.iload 4, 2) := by decide +kernel
theorem dX10_shift_158 : decode cX10_shift 158 = .ok (.iadd, 1) := by decide +kernel
theorem dX10_shift_159 : decode cX10_shift 159 = .ok (.iload 6, 2) := by decide +kernel
theorem dX10_shift_161 : decode cX10_shift 161 = .ok (.iadd, 1) := by decide +kernel
theorem dX10_shift_162 : decode cX10_shift 162 = .ok (.aload_n 0, 1) := by decide +kernel
theorem dX10_shift_163 : decode cX10_shift 163 = .ok (.getfield 221, 3) := by decide +kernel
theorem dX10_shift_166 : decode cX10_shift 166 = .ok (.iload 6, 2) := by decide +kernel
theorem dX10_shift_168 : decode cX10_shift 168 = .ok (.laload, 1) := by decide +kernel
theorem dX10_shift_169 : decode cX10_shift 169 = .ok (.lastore, 1) := by decide +kernel
theorem dX10_shift_170 : decode cX10_shift 170 = .ok (.iinc 6 1, 3) := by decide +kernel
theorem dX10_shift_173 : decode cX10_shift 173 = .ok (.goto (-32), 3) := by decide +kernel
theorem dX10_shift_176 : decode cX10_shift 176 = .ok (.iload 5, 2) := by decide +kernel
theorem dX10_shift_178 : decode cX10_shift 178 = .ok (.ireturn, 1) := by decide +kernel
theorem dJ6_bitCount_0f7a4_0 : decode cJ6_bitCount_0f7a4 0 = .ok (.iload_n 0, 1) := by decide +kernel
theorem dJ6_bitCount_0f7a4_1 : decode cJ6_bitCount_0f7a4 1 = .ok (.iload_n 0, 1) := by decide +kernel
theorem dJ6_bitCount_0f7a4_2 : decode cJ6_bitCount_0f7a4 2 = .ok (.iconst 1, 1) := by decide +kernel
theorem dJ6_bitCount_0f7a4_3 : decode cJ6_bitCount_0f7a4 3 = .ok (.iushr, 1) := by decide +kernel
theorem dJ6_bitCount_0f7a4_4 : decode cJ6_bitCount_0f7a4 4 = .ok (.ldc_w 265, 3) := by decide +kernel
theorem dJ6_bitCount_0f7a4_7 : decode cJ6_bitCount_0f7a4 7 = .ok (.iand, 1) := by decide +kernel
theorem dJ6_bitCount_0f7a4_8 : decode cJ6_bitCount_0f7a4 8 = .ok (.isub, 1) := by decide +kernel
theorem dJ6_bitCount_0f7a4_9 : decode cJ6_bitCount_0f7a4 9 = .ok (.istore_n 0, 1) := by decide +kernel
theorem dJ6_bitCount_0f7a4_10 : decode cJ6_bitCount_0f7a4 10 = .ok (.iload_n 0, 1) := by decide +kernel
theorem dJ6_bitCount_0f7a4_11 : decode cJ6_bitCount_0f7a4 11 = .ok (.ldc_w 266, 3) := by decide +kernel
theorem dJ6_bitCount_0f7a4_14 : decode cJ6_bitCount_0f7a4 14 = .ok (.iand, 1) := by decide +kernel
theorem dJ6_bitCount_0f7a4_15 : decode cJ6_bitCount_0f7a4 15 = .ok (.iload_n 0, 1) := by decide +kernel
theorem dJ6_bitCount_0f7a4_16 : decode cJ6_bitCount_0f7a4 16 = .ok (.iconst 2, 1) := by decide +kernel
theorem dJ6_bitCount_0f7a4_17 : decode cJ6_bitCount_0f7a4 17 = .ok (.iushr, 1) := by decide +kernel
theorem dJ6_bitCount_0f7a4_18 : decode cJ6_bitCount_0f7a4 18 = .ok (.ldc_w 266, 3) := by decide +kernel
theorem dJ6_bitCount_0f7a4_21 : decode cJ6_bitCount_0f7a4 21 = .ok (.iand, 1) := by decide +kernel
theorem dJ6_bitCount_0f7a4_22 : decode cJ6_bitCount_0f7a4 22 = .ok (.iadd, 1) := by decide +kernel
theorem dJ6_bitCount_0f7a4_23 : decode cJ6_bitCount_0f7a4 23 = .ok (.istore_n 0, 1) := by decide +kernel
theorem dJ6_bitCount_0f7a4_24 : decode cJ6_bitCount_0f7a4 24 = .ok (.iload_n 0, 1) := by decide +kernel
theorem dJ6_bitCount_0f7a4_25 : decode cJ6_bitCount_0f7a4 25 = .ok (.iload_n 0, 1) := by decide +kernel
theorem dJ6_bitCount_0f7a4_26 : decode cJ6_bitCount_0f7a4 26 = .ok (.iconst 4, 1) := by decide +kernel
theorem dJ6_bitCount_0f7a4_27 : decode cJ6_bitCount_0f7a4 27 = .ok (.iushr, 1) := by decide +kernel
theorem dJ6_bitCount_0f7a4_28 : decode cJ6_bitCount_0f7a4 28 = .ok (.iadd, 1) := by decide +kernel
theorem dJ6_bitCount_0f7a4_29 : decode cJ6_bitCount_0f7a4 29 = .ok (.ldc_w 267, 3) := by decide +kernel
theorem dJ6_bitCount_0f7a4_32 : decode cJ6_bitCount_0f7a4 32 = .ok (.iand, 1) := by decide +kernel
theorem dJ6_bitCount_0f7a4_33 : decode cJ6_bitCount_0f7a4 33 = .ok (.istore_n 0, 1) := by decide +kernel
theorem dJ6_bitCount_0f7a4_34 : decode cJ6_bitCount_0f7a4 34 = .ok (.iload_n 0, 1) := by decide +kernel
theorem dJ6_bitCount_0f7a4_35 : decode cJ6_bitCount_0f7a4 35 = .ok (.iload_n 0, 1) := by decide +kernel
theorem dJ6_bitCount_0f7a4_36 : decode cJ6_bitCount_0f7a4 36 = .ok (.bipush 8, 2) := by decide +kernel
theorem dJ6_bitCount_0f7a4_38 : decode cJ6_bitCount_0f7a4 38 = .ok (.iushr, 1) := by decide +kernel
theorem dJ6_bitCount_0f7a4_39 : decode cJ6_bitCount_0f7a4 39 = .ok (.iadd, 1) := by decide +kernel
theorem dJ6_bitCount_0f7a4_40 : decode cJ6_bitCount_0f7a4 40 = .ok (.istore_n 0, 1) := by decide +kernel
theorem dJ6_bitCount_0f7a4_41 : decode cJ6_bitCount_0f7a4 41 = .ok (.iload_n 0, 1) := by decide +kernel
theorem dJ6_bitCount_0f7a4_42 : decode cJ6_bitCount_0f7a4 42 = .ok (.iload_n 0, 1) := by decide +kernel
theorem dJ6_bitCount_0f7a4_43 : decode cJ6_bitCount_0f7a4 43 = .ok (.bipush 16, 2) := by decide +kernel
theorem dJ6_bitCount_0f7a4_45 : decode cJ6_bitCount_0f7a4 45 = .ok (.iushr, 1) := by decide +kernel
theorem dJ6_bitCount_0f7a4_46 : decode cJ6_bitCount_0f7a4 46 = .ok (.iadd, 1) := by decide +kernel
theorem dJ6_bitCount_0f7a4_47 : decode cJ6_bitCount_0f7a4 47 = .ok (.istore_n 0, 1) := by decide +kernel
theorem dJ6_bitCount_0f7a4_48 : decode cJ6_bitCount_0f7a4 48 = .ok (.iload_n 0, 1) := by decide +kernel
theorem dJ6_bitCount_0f7a4_49 : decode cJ6_bitCount_0f7a4 49 = .ok (.bipush 63, 2) := by decide +kernel
theorem dJ6_bitCount_0f7a4_51 : decode cJ6_bitCount_0f7a4 51 = .ok (.iand, 1) := by decide +kernel
theorem dJ6_bitCount_0f7a4_52 : decode cJ6_bitCount_0f7a4 52 = .ok (.ireturn, 1) := by decide +kernel
theorem dJ9_abs_0f7a4_0 : decode cJ9_abs_0f7a4 0 = .ok (.iload_n 0, 1) := by decide +kernel
theorem dJ9_abs_0f7a4_1 : decode cJ9_abs_0f7a4 1 = .ok (.ifCond .ge 8, 3) := by decide +kernel
theorem dJ9_abs_0f7a4_4 : decode cJ9_abs_0f7a4 4 = .ok (.iload_n 0, 1) := by decide +kernel
theorem dJ9_abs_0f7a4_5 : decode cJ9_abs_0f7a4 5 = .ok (.ineg, 1) := by decide +kernel
theorem dJ9_abs_0f7a4_6 : decode cJ9_abs_0f7a4 6 = .ok (.goto 4, 3) := by decide +kernel
theorem dJ9_abs_0f7a4_9 : decode cJ9_abs_0f7a4 9 = .ok (.iload_n 0, 1) := by decide +kernel
theorem dJ9_abs_0f7a4_10 : decode cJ9_abs_0f7a4 10 = .ok (.ireturn, 1) := by decide +kernel
theorem dJ9_max_7cf53_0 : decode cJ9_max_7cf53 0 = .ok (.iload_n 0, 1) := by decide +kernel
theorem dJ9_max_7cf53_1 : decode cJ9_max_7cf53 1 = .ok (.iload_n 1, 1) := by decide +kernel
theorem dJ9_max_7cf53_2 : decode cJ9_max_7cf53 2 = .ok (.if_icmp .lt 7, 3) := by decide +kernel
theorem dJ9_max_7cf53_5 : decode cJ9_max_7cf53 5 = .ok (.iload_n 0, 1) := by decide +kernel
theorem dJ9_max_7cf53_6 : decode cJ9_max_7cf53 6 = .ok (.goto 4, 3) := by decide +kernel
theorem dJ9_max_7cf53_9 : decode cJ9_max_7cf53 9 = .ok (.iload_n 1, 1) := by decide +kernel
theorem dJ9_max_7cf53_10 : decode cJ9_max_7cf53 10 = .ok (.ireturn, 1) := by decide +kernel
theorem dJ9_min_7cf53_0 : decode cJ9_min_7cf53 0 = .ok (.iload_n 0, 1) := by decide +kernel
theorem dJ9_min_7cf53_1 : decode cJ9_min_7cf53 1 = .ok (.iload_n 1, 1) := by decide +kernel
theorem dJ9_min_7cf53_2 : decode cJ9_min_7cf53 2 = .ok (.if_icmp .gt 7, 3) := by decide +kernel
theorem dJ9_min_7cf53_5 : decode cJ9_min_7cf53 5 = .ok (.iload_n 0, 1) := by decide +kernel
theorem dJ9_min_7cf53_6 : decode cJ9_min_7cf53 6 = .ok (.goto 4, 3) := by decide +kernel
theorem dJ9_min_7cf53_9 : decode cJ9_min_7cf53 9 = .ok (.iload_n 1, 1) := by decide +kernel
theorem dJ9_min_7cf53_10 : decode cJ9_min_7cf53 10 = .ok (.ireturn, 1) := by decide +kernel
theorem dJ0_length_8abf5_0 : decode cJ0_length_8abf5 0 = .ok (.aload_n 0, 1) := by decide +kernel
theorem dJ0_length_8abf5_1 : decode cJ0_length_8abf5 1 = .ok (.getfield 9, 3) := by decide +kernel
theorem dJ0_length_8abf5_4 : decode cJ0_length_8abf5 4 = .ok (.arraylength, 1) := by decide +kernel
theorem dJ0_length_8abf5_5 : decode cJ0_length_8abf5 5 = .ok (.aload_n 0, 1) := by decide +kernel
theorem dJ0_length_8abf5_6 : decode cJ0_length_8abf5 6 = .ok (.invokevirtual 335, 3) := by decide +kernel
theorem dJ0_length_8abf5_9 : decode cJ0_length_8abf5 9 = .ok (.ishr, 1) := by decide +kernel
theorem dJ0_length_8abf5_10 : decode cJ0_length_8abf5 10 = .ok (.ireturn, 1) := by decide +kernel
theorem dJ0_charAt_5068e_0 : decode cJ0_charAt_5068e 0 = .ok (.aload_n 0, 1) := by decide +kernel
theorem dJ0_charAt_5068e_1 : decode cJ0_charAt_5068e 1 = .ok (.invokevirtual 492, 3) := by decide +kernel
theorem dJ0_charAt_5068e_4 : decode cJ0_charAt_5068e 4 = .ok (.ifCond .eq 12, 3) := by decide +kernel
theorem dJ0_charAt_5068e_7 : decode cJ0_charAt_5068e 7 = .ok (.aload_n 0, 1) := by decide +kernel
theorem dJ0_charAt_5068e_8 : decode cJ0_charAt_5068e 8 = .ok (.getfield 9, 3) := by decide +kernel
theorem dJ0_charAt_5068e_11 : decode cJ0_charAt_5068e 11 = .ok (.iload_n 1, 1) := by decide +kernel
theorem dJ0_charAt_5068e_12 : decode cJ0_charAt_5068e 12 = .ok (.invokestatic 495, 3) := by decide +kernel
theorem dJ0_charAt_5068e_15 : decode cJ0_charAt_5068e 15 = .ok (.ireturn, 1) := by decide +kernel
theorem dJ0_charAt_5068e_16 : decode cJ0_charAt_5068e 16 = .ok (.aload_n 0, 1) := by decide +kernel
theorem dJ0_charAt_5068e_17 : decode cJ0_charAt_5068e 17 = .ok (.getfield 9, 3) := by decide +kernel
theorem dJ0_charAt_5068e_20 : decode cJ0_charAt_5068e 20 = .ok (.iload_n 1, 1) := by decide +kernel
theorem dJ0_charAt_5068e_21 : decode cJ0_charAt_5068e 21 = .ok (.invokestatic 498, 3) := by decide +kernel
theorem dJ0_charAt_5068e_24 : decode cJ0_charAt_5068e 24 = .ok (.ireturn, 1) := by decide +kernel
theorem dJ0_coder_7d493_0 : decode cJ0_coder_7d493 0 = .ok (.getstatic 38, 3) := by decide +kernel
theorem dJ0_coder_7d493_3 : decode cJ0_coder_7d493 3 = .ok (.ifCond .eq 10, 3) := by decide +kernel
theorem dJ0_coder_7d493_6 : decode cJ0_coder_7d493 6 = .ok (.aload_n 0, 1) := by decide +kernel
theorem dJ0_coder_7d493_7 : decode cJ0_coder_7d493 7 = .ok (.getfield 15, 3) := by decide +kernel
theorem dJ0_coder_7d493_10 : decode cJ0_coder_7d493 10 = .ok (.goto 4, 3) := by decide +kernel
theorem dJ0_coder_7d493_13 : decode cJ0_coder_7d493 13 = .ok (.iconst 1, 1) := by decide +kernel
theorem dJ0_coder_7d493_14 : decode cJ0_coder_7d493 14 = .ok (.ireturn, 1) := by decide +kernel
theorem dJ0_isLatin1_aae02_0 : decode cJ0_isLatin1_aae02 0 = .ok (.getstatic 38, 3) := by decide +kernel
theorem dJ0_isLatin1_aae02_3 : decode cJ0_isLatin1_aae02 3 = .ok (.ifCond .eq 14, 3) := by decide +kernel
theorem dJ0_isLatin1_aae02_6 : decode cJ0_isLatin1_aae02 6 = .ok (.aload_n 0, 1) := by decide +kernel
theorem dJ0_isLatin1_aae02_7 : decode cJ0_isLatin1_aae02 7 = .ok (.getfield 15, 3) := by decide +kernel
theorem dJ0_isLatin1_aae02_10 : decode cJ0_isLatin1_aae02 10 = .ok (.ifCond .ne 7, 3) := by decide +kernel
theorem dJ0_isLatin1_aae02_13 : decode cJ0_isLatin1_aae02 13 = .ok (.iconst 1, 1) := by decide +kernel
theorem dJ0_isLatin1_aae02_14 : decode cJ0_isLatin1_aae02 14 = .ok (.goto 4, 3) := by decide +kernel
theorem dJ0_isLatin1_aae02_17 : decode cJ0_isLatin1_aae02 17 = .ok (.iconst 0, 1) := by decide +kernel
theorem dJ0_isLatin1_aae02_18 : decode cJ0_isLatin1_aae02 18 = .ok (.ireturn, 1) := by decide +kernel
theorem dJ0_checkIndex_df160_0 : decode cJ0_checkIndex_df160 0 = .ok (.iload_n 0, 1) := by decide +kernel
theorem dJ0_checkIndex_df160_1 : decode cJ0_checkIndex_df160 1 = .ok (.iload_n 1, 1) := by decide +kernel
theorem dJ0_checkIndex_df160_2 : decode cJ0_checkIndex_df160 2 = .ok (.getstatic 1053, 3) := by decide +kernel
theorem dJ0_checkIndex_df160_5 : decode cJ0_checkIndex_df160 5 = .ok (.invokestatic 1059, 3) := by decide +kernel
theorem dJ0_checkIndex_df160_8 : decode cJ0_checkIndex_df160 8 = .ok (.pop, 1) := by decide +kernel
theorem dJ0_checkIndex_df160_9 : decode cJ0_checkIndex_df160 9 = .ok (.return_, 1) := by decide +kernel
theorem dJ1_charAt_3b067_0 : decode cJ1_charAt_3b067 0 = .ok (.iload_n 1, 1) := by decide +kernel
theorem dJ1_charAt_3b067_1 : decode cJ1_charAt_3b067 1 = .ok (.aload_n 0, 1) := by decide +kernel
theorem dJ1_charAt_3b067_2 : decode cJ1_charAt_3b067 2 = .ok (.arraylength, 1) := by decide +kernel
theorem dJ1_charAt_3b067_3 : decode cJ1_charAt_3b067 3 = .ok (.invokestatic 9, 3) := by decide +kernel
theorem dJ1_charAt_3b067_6 : decode cJ1_charAt_3b067 6 = .ok (.aload_n 0, 1) := by decide +kernel
theorem dJ1_charAt_3b067_7 : decode cJ1_charAt_3b067 7 = .ok (.iload_n 1, 1) := by decide +kernel
theorem dJ1_charAt_3b067_8 : decode cJ1_charAt_3b067 8 = .ok (.baload, 1) := by decide +kernel
theorem dJ1_charAt_3b067_9 : decode cJ1_charAt_3b067 9 = .ok (.sipush 255, 3) := by decide +kernel
theorem dJ1_charAt_3b067_12 : decode cJ1_charAt_3b067 12 = .ok (.iand, 1) := by decide +kernel
theorem dJ1_charAt_3b067_13 : decode cJ1_charAt_3b067 13 = .ok (.i2c, 1) := by decide +kernel
theorem dJ1_charAt_3b067_14 : decode cJ1_charAt_3b067 14 = .ok (.ireturn, 1) := by decide +kernel
theorem dJ2_getChar_3b067_0 : decode cJ2_getChar_3b067 0 = .ok (.getstatic 44, 3) := by decide +kernel
theorem dJ2_getChar_3b067_3 : decode cJ2_getChar_3b067 3 = .ok (.ifCond .ne 25, 3) := by decide +kernel
theorem dJ2_getChar_3b067_6 : decode cJ2_getChar_3b067 6 = .ok (.iload_n 1, 1) := by decide +kernel
theorem dJ2_getChar_3b067_7 : decode cJ2_getChar_3b067 7 = .ok (.ifCond .lt 11, 3) := by decide +kernel
theorem dJ2_getChar_3b067_10 : decode cJ2_getChar_3b067 10 = .ok (.iload_n 1, 1) := by decide +kernel
theorem dJ2_getChar_3b067_11 : decode cJ2_getChar_3b067 11 = .ok (.aload_n 0, 1) := by decide +kernel
theorem dJ2_getChar_3b067_12 : decode cJ2_getChar_3b067 12 = .ok (.invokestatic 48, 3) := by decide +kernel
theorem dJ2_getChar_3b067_15 : decode cJ2_getChar_3b067 15 = .ok (.if_icmp .lt 13, 3) := by decide +kernel
theorem dJ2_getChar_3b067_18 : decode cJ2_getChar_3b067 18 = .ok (.new 52, 3) := by decide +kernel
theorem dJ2_getChar_3b067_21 : decode cJ2_getChar_3b067 21 = .ok (.dup, 1) := by decide +kernel
theorem dJ2_getChar_3b067_22 : decode cJ2_getChar_3b067 22 = .ok (.ldc 54, 2) := by decide +kernel
theorem dJ2_getChar_3b067_24 : decode cJ2_getChar_3b067 24 = .ok (.invokespecial 56, 3) := by decide +kernel
theorem dJ2_getChar_3b067_27 : decode cJ2_getChar_3b067 27 = .ok (.athrow, 1) := by decide +kernel
theorem dJ2_getChar_3b067_28 : decode cJ2_getChar_3b067 28 = .ok (.iload_n 1, 1) := by decide +kernel
theorem dJ2_getChar_3b067_29 : decode cJ2_getChar_3b067 29 = .ok (.iconst 1, 1) := by decide +kernel
theorem dJ2_getChar_3b067_30 : decode cJ2_getChar_3b067 30 = .ok (.ishl, 1) := by decide +kernel
theorem dJ2_getChar_3b067_31 : decode cJ2_getChar_3b067 31 = .ok (.istore_n 1, 1) := by decide +kernel
theorem dJ2_getChar_3b067_32 : decode cJ2_getChar_3b067 32 = .ok (.aload_n 0, 1) := by decide +kernel
theorem dJ2_getChar_3b067_33 : decode cJ2_getChar_3b067 33 = .ok (.iload_n 1, 1) := by decide +kernel
theorem dJ2_getChar_3b067_34 : decode cJ2_getChar_3b067 34 = .ok (.iinc 1 1, 3) := by decide +kernel
theorem dJ2_getChar_3b067_37 : decode cJ2_getChar_3b067 37 = .ok (.baload, 1) := by decide +kernel
theorem dJ2_getChar_3b067_38 : decode cJ2_getChar_3b067 38 = .ok (.sipush 255, 3) := by decide +kernel
theorem dJ2_getChar_3b067_41 : decode cJ2_getChar_3b067 41 = .ok (.iand, 1) := by decide +kernel
theorem dJ2_getChar_3b067_42 : decode cJ2_getChar_3b067 42 = .ok (.getstatic 59, 3) := by decide +kernel
theorem dJ2_getChar_3b067_45 : decode cJ2_getChar_3b067 45 = .ok (.ishl, 1) := by decide +kernel
theorem dJ2_getChar_3b067_46 : decode cJ2_getChar_3b067 46 = .ok (.aload_n 0, 1) := by decide +kernel
theorem dJ2_getChar_3b067_47 : decode cJ2_getChar_3b067 47 = .ok (.iload_n 1, 1) := by decide +kernel
theorem dJ2_getChar_3b067_48 : decode cJ2_getChar_3b067 48 = .ok (.baload, 1) := by decide +kernel
theorem dJ2_getChar_3b067_49 : decode cJ2_getChar_3b067 49 = .ok (.sipush 255, 3) := by decide +kernel
theorem dJ2_getChar_3b067_52 : decode cJ2_getChar_3b067 52 = .ok (.iand, 1) := by decide +kernel
theorem dJ2_getChar_3b067_53 : decode cJ2_getChar_3b067 53 = .ok (.getstatic 63, 3) := by decide +kernel
theorem dJ2_getChar_3b067_56 : decode cJ2_getChar_3b067 56 = .ok (.ishl, 1) := by decide +kernel
theorem dJ2_getChar_3b067_57 : decode cJ2_getChar_3b067 57 = .ok (.ior, 1) := by decide +kernel
theorem dJ2_getChar_3b067_58 : decode cJ2_getChar_3b067 58 = .ok (.i2c, 1) := by decide +kernel
theorem dJ2_getChar_3b067_59 : decode cJ2_getChar_3b067 59 = .ok (.ireturn, 1) := by decide +kernel
theorem dJ2_length_9d52b_0 : decode cJ2_length_9d52b 0 = .ok (.aload_n 0, 1) := by decide +kernel
theorem dJ2_length_9d52b_1 : decode cJ2_length_9d52b 1 = .ok (.arraylength, 1) := by decide +kernel
theorem dJ2_length_9d52b_2 : decode cJ2_length_9d52b 2 = .ok (.iconst 1, 1) := by decide +kernel
theorem dJ2_length_9d52b_3 : decode cJ2_length_9d52b 3 = .ok (.ishr, 1) := by decide +kernel
theorem dJ2_length_9d52b_4 : decode cJ2_length_9d52b 4 = .ok (.ireturn, 1) := by decide +kernel
theorem dJ2_charAt_3b067_0 : decode cJ2_charAt_3b067 0 = .ok (.iload_n 1, 1) := by decide +kernel
theorem dJ2_charAt_3b067_1 : decode cJ2_charAt_3b067 1 = .ok (.aload_n 0, 1) := by decide +kernel
theorem dJ2_charAt_3b067_2 : decode cJ2_charAt_3b067 2 = .ok (.invokestatic 67, 3) := by decide +kernel
theorem dJ2_charAt_3b067_5 : decode cJ2_charAt_3b067 5 = .ok (.aload_n 0, 1) := by decide +kernel
theorem dJ2_charAt_3b067_6 : decode cJ2_charAt_3b067 6 = .ok (.iload_n 1, 1) := by decide +kernel
theorem dJ2_charAt_3b067_7 : decode cJ2_charAt_3b067 7 = .ok (.invokestatic 71, 3) := by decide +kernel
theorem dJ2_charAt_3b067_10 : decode cJ2_charAt_3b067 10 = .ok (.ireturn, 1) := by decide +kernel
theorem dJ2_checkIndex_2214a_0 : decode cJ2_checkIndex_2214a 0 = .ok (.iload_n 0, 1) := by decide +kernel
theorem dJ2_checkIndex_2214a_1 : decode cJ2_checkIndex_2214a 1 = .ok (.aload_n 1, 1) := by decide +kernel
theorem dJ2_checkIndex_2214a_2 : decode cJ2_checkIndex_2214a 2 = .ok (.invokestatic 48, 3) := by decide +kernel
theorem dJ2_checkIndex_2214a_5 : decode cJ2_checkIndex_2214a 5 = .ok (.invokestatic 414, 3) := by decide +kernel
theorem dJ2_checkIndex_2214a_8 : decode cJ2_checkIndex_2214a 8 = .ok (.return_, 1) := by decide +kernel
theorem dJ3_checkIndex_8e157_0 : decode cJ3_checkIndex_8e157 0 = .ok (.iload_n 0, 1) := by decide +kernel
theorem dJ3_checkIndex_8e157_1 : decode cJ3_checkIndex_8e157 1 = .ok (.ifCond .lt 8, 3) := by decide +kernel
theorem dJ3_checkIndex_8e157_4 : decode cJ3_checkIndex_8e157 4 = .ok (.iload_n 0, 1) := by decide +kernel
theorem dJ3_checkIndex_8e157_5 : decode cJ3_checkIndex_8e157 5 = .ok (.iload_n 1, 1) := by decide +kernel
theorem dJ3_checkIndex_8e157_6 : decode cJ3_checkIndex_8e157 6 = .ok (.if_icmp .lt 10, 3) := by decide +kernel
theorem dJ3_checkIndex_8e157_9 : decode cJ3_checkIndex_8e157 9 = .ok (.aload_n 2, 1) := by decide +kernel
theorem dJ3_checkIndex_8e157_10 : decode cJ3_checkIndex_8e157 10 = .ok (.iload_n 0, 1) := by decide +kernel
theorem dJ3_checkIndex_8e157_11 : decode cJ3_checkIndex_8e157 11 = .ok (.iload_n 1, 1) := by decide +kernel
theorem dJ3_checkIndex_8e157_12 : decode cJ3_checkIndex_8e157 12 = .ok (.invokestatic 95, 3) := by decide +kernel
theorem dJ3_checkIndex_8e157_15 : decode cJ3_checkIndex_8e157 15 = .ok (.athrow, 1) := by decide +kernel
theorem dJ3_checkIndex_8e157_16 : decode cJ3_checkIndex_8e157 16 = .ok (.iload_n 0, 1) := by decide +kernel
theorem dJ3_checkIndex_8e157_17 : decode cJ3_checkIndex_8e157 17 = .ok (.ireturn, 1) := by decide +kernel
theorem dL_law_0 : decode cL_law 0 = .ok (.new 7, 3) := by decide +kernel
theorem dL_law_3 : decode cL_law 3 = .ok (.dup, 1) := by decide +kernel
theorem dL_law_4 : decode cL_law 4 = .ok (.invokespecial 9, 3) := by decide +kernel
theorem dL_law_7 : decode cL_law 7 = .ok (.astore_n 1, 1) := by decide +kernel
theorem dL_law_8 : decode cL_law 8 = .ok (.new 10, 3) := by decide +kernel
theorem dL_law_11 : decode cL_law 11 = .ok (.dup, 1) := by decide +kernel
theorem dL_law_12 : decode cL_law 12 = .ok (.invokespecial 12, 3) := by decide +kernel
theorem dL_law_15 : decode cL_law 15 = .ok (.astore_n 2, 1) := by decide +kernel
theorem dL_law_16 : decode cL_law 16 = .ok (.iconst 0, 1) := by decide +kernel
theorem dL_law_17 : decode cL_law 17 = .ok (.istore_n 3, 1) := by decide +kernel
theorem dL_law_18 : decode cL_law 18 = .ok (.iload_n 3, 1) := by decide +kernel
theorem dL_law_19 : decode cL_law 19 = .ok (.aload_n 0, 1) := by decide +kernel
theorem dL_law_20 : decode cL_law 20 = .ok (.arraylength, 1) := by decide +kernel
theorem dL_law_21 : decode cL_law 21 = .ok (.bipush 6, 2) := by decide +kernel
theorem dL_law_23 : decode cL_law 23 = .ok (.isub, 1) := by decide +kernel
theorem dL_law_24 : decode cL_law 24 = .ok (.if_icmp .gt 1116, 3) := by decide +kernel
theorem dL_law_27 : decode cL_law 27 = .ok (.aload_n 0, 1) := by decide +kernel
theorem dL_law_28 : decode cL_law 28 = .ok (.iload_n 3, 1) := by decide +kernel
theorem dL_law_29 : decode cL_law 29 = .ok (.iaload, 1) := by decide +kernel
theorem dL_law_30 : decode cL_law 30 = .ok (.bipush 31, 2) := by decide +kernel
theorem dL_law_32 : decode cL_law 32 = .ok (.iand, 1) := by decide +kernel
theorem dL_law_33 : decode cL_law 33 = .ok (.tableswitch 1101 0 30 #[139, 192, 225, 268, 327, 350, 383, 396, 419, 433, 456, 479, 502, 535, 558, 571, 594, 617, 651, 674, 697, 740, 753, 766, 809, 832, 865, 888, 931, 1004, 1038], 139) := by decide +kernel
theorem dL_law_172 : decode cL_law 172 = .ok (.aload_n 1, 1) := by decide +kernel
theorem dL_law_173 : decode cL_law 173 = .ok (.aload_n 0, 1) := by decide +kernel
theorem dL_law_174 : decode cL_law 174 = .ok (.iload_n 3, 1) := by decide +kernel
theorem dL_law_175 : decode cL_law 175 = .ok (.iconst 1, 1) := by decide +kernel
theorem dL_law_176 : decode cL_law 176 = .ok (.iadd, 1) := by decide +kernel
theorem dL_law_177 : decode cL_law 177 = .ok (.iaload, 1) := by decide +kernel
theorem dL_law_178 : decode cL_law 178 = .ok (.aload_n 0, 1) := by decide +kernel
theorem dL_law_179 : decode cL_law 179 = .ok (.iload_n 3, 1) := by decide +kernel
theorem dL_law_180 : decode cL_law 180 = .ok (.iconst 2, 1) := by decide +kernel
theorem dL_law_181 : decode cL_law 181 = .ok (.iadd, 1) := by decide +kernel
theorem dL_law_182 : decode cL_law 182 = .ok (.iaload, 1) := by decide +kernel
theorem dL_law_183 : decode cL_law 183 = .ok (.aload_n 0, 1) := by decide +kernel
theorem dL_law_184 : decode cL_law 184 = .ok (.iload_n 3, 1) := by decide +kernel
theorem dL_law_185 : decode cL_law 185 = .ok (.iconst 3, 1) := by decide +kernel
theorem dL_law_186 : decode cL_law 186 = .ok (.iadd, 1) := by decide +kernel
theorem dL_law_187 : decode cL_law 187 = .ok (.iaload, 1) := by decide +kernel
theorem dL_law_188 : decode cL_law 188 = .ok (.aload_n 0, 1) := by decide +kernel
theorem dL_law_189 : decode cL_law 189 = .ok (.iload_n 3, 1) := by decide +kernel
theorem dL_law_190 : decode cL_law 190 = .ok (.iconst 4, 1) := by decide +kernel
theorem dL_law_191 : decode cL_law 191 = .ok (.iadd, 1) := by decide +kernel
theorem dL_law_192 : decode cL_law 192 = .ok (.iaload, 1) := by decide +kernel
theorem dL_law_193 : decode cL_law 193 = .ok (.invokevirtual 13, 3) := by decide +kernel
theorem dL_law_196 : decode cL_law 196 = .ok (.aload_n 2, 1) := by decide +kernel
theorem dL_law_197 : decode cL_law 197 = .ok (.aload_n 0, 1) := by decide +kernel
theorem dL_law_198 : decode cL_law 198 = .ok (.iload_n 3, 1) := by decide +kernel
theorem dL_law_199 : decode cL_law 199 = .ok (.iconst 1, 1) := by decide +kernel
theorem dL_law_200 : decode cL_law 200 = .ok (.iadd, 1) := by decide +kernel
theorem dL_law_201 : decode cL_law 201 = .ok (.iaload, 1) := by decide +kernel
theorem dL_law_202 : decode cL_law 202 = .ok (.aload_n 0, 1) := by decide +kernel
theorem dL_law_203 : decode cL_law 203 = .ok (.iload_n 3, 1) := by decide +kernel
theorem dL_law_204 : decode cL_law 204 = .ok (.iconst 2, 1) := by decide +kernel
theorem dL_law_205 : decode cL_law 205 = .ok (.iadd, 1) := by decide +kernel
theorem dL_law_206 : decode cL_law 206 = .ok (.iaload, 1) := by decide +kernel
theorem dL_law_207 : decode cL_law 207 = .ok (.aload_n 0, 1) := by decide +kernel
theorem dL_law_208 : decode cL_law 208 = .ok (.iload_n 3, 1) := by decide +kernel
theorem dL_law_209 : decode cL_law 209 = .ok (.iconst 3, 1) := by decide +kernel
theorem dL_law_210 : decode cL_law 210 = .ok (.iadd, 1) := by decide +kernel
theorem dL_law_211 : decode cL_law 211 = .ok (.iaload, 1) := by decide +kernel
theorem dL_law_212 : decode cL_law 212 = .ok (.aload_n 0, 1) := by decide +kernel
theorem dL_law_213 : decode cL_law 213 = .ok (.iload_n 3, 1) := by decide +kernel
theorem dL_law_214 : decode cL_law 214 = .ok (.iconst 4, 1) := by decide +kernel
theorem dL_law_215 : decode cL_law 215 = .ok (.iadd, 1) := by decide +kernel
theorem dL_law_216 : decode cL_law 216 = .ok (.iaload, 1) := by decide +kernel
theorem dL_law_217 : decode cL_law 217 = .ok (.invokevirtual 17, 3) := by decide +kernel
theorem dL_law_220 : decode cL_law 220 = .ok (.if_icmp .eq 914, 3) := by decide +kernel
theorem dL_law_223 : decode cL_law 223 = .ok (.iconst 0, 1) := by decide +kernel
theorem dL_law_224 : decode cL_law 224 = .ok (.ireturn, 1) := by decide +kernel
theorem dL_law_225 : decode cL_law 225 = .ok (.aload_n 1, 1) := by decide +kernel
theorem dL_law_226 : decode cL_law 226 = .ok (.aload_n 0, 1) := by decide +kernel
theorem dL_law_227 : decode cL_law 227 = .ok (.iload_n 3, 1) := by decide +kernel
theorem dL_law_228 : decode cL_law 228 = .ok (.iconst 1, 1) := by decide +kernel
theorem dL_law_229 : decode cL_law 229 = .ok (.iadd, 1) := by decide +kernel
theorem dL_law_230 : decode cL_law 230 = .ok (.iaload, 1) := by decide +kernel
theorem dL_law_231 : decode cL_law 231 = .ok (.aload_n 0, 1) := by decide +kernel
theorem dL_law_232 : decode cL_law 232 = .ok (.iload_n 3, 1) := by decide +kernel
theorem dL_law_233 : decode cL_law 233 = .ok (.iconst 2, 1) := by decide +kernel
theorem dL_law_234 : decode cL_law 234 = .ok (.iadd, 1) := by decide +kernel
theorem dL_law_235 : decode cL_law 235 = .ok (.iaload, 1) := by decide +kernel
theorem dL_law_236 : decode cL_law 236 = .ok (.invokevirtual 18, 3) := by decide +kernel
theorem dL_law_239 : decode cL_law 239 = .ok (.aload_n 2, 1) := by decide +kernel
theorem dL_law_240 : decode cL_law 240 = .ok (.aload_n 0, 1) := by decide +kernel
theorem dL_law_241 : decode cL_law 241 = .ok (.iload_n 3, 1) := by decide +kernel
theorem dL_law_242 : decode cL_law 242 = .ok (.iconst 1, 1) := by decide +kernel
theorem dL_law_243 : decode cL_law 243 = .ok (.iadd, 1) := by decide +kernel
theorem dL_law_244 : decode cL_law 244 = .ok (.iaload, 1) := by decide +kernel
theorem dL_law_245 : decode cL_law 245 = .ok (.aload_n 0, 1) := by decide +kernel
theorem dL_law_246 : decode cL_law 246 = .ok (.iload_n 3, 1) := by decide +kernel
theorem dL_law_247 : decode cL_law 247 = .ok (.iconst 2, 1) := by decide +kernel
theorem dL_law_248 : decode cL_law 248 = .ok (.iadd, 1) := by decide +kernel
theorem dL_law_249 : decode cL_law 249 = .ok (.iaload, 1) := by decide +kernel
theorem dL_law_250 : decode cL_law 250 = .ok (.invokevirtual 22, 3) := by decide +kernel
theorem dL_law_253 : decode cL_law 253 = .ok (.if_icmp .eq 881, 3) := by decide +kernel
theorem dL_law_256 : decode cL_law 256 = .ok (.iconst 0, 1) := by decide +kernel
theorem dL_law_257 : decode cL_law 257 = .ok (.ireturn, 1) := by decide +kernel
theorem dL_law_258 : decode cL_law 258 = .ok (.aload_n 1, 1) := by decide +kernel
theorem dL_law_259 : decode cL_law 259 = .ok (.aload_n 0, 1) := by decide +kernel
theorem dL_law_260 : decode cL_law 260 = .ok (.iload_n 3, 1) := by decide +kernel
theorem dL_law_261 : decode cL_law 261 = .ok (.iconst 1, 1) := by decide +kernel
theorem dL_law_262 : decode cL_law 262 = .ok (.iadd, 1) := by decide +kernel
theorem dL_law_263 : decode cL_law 263 = .ok (.iaload, 1) := by decide +kernel
theorem dL_law_264 : decode cL_law 264 = .ok (.aload_n 0, 1) := by decide +kernel
theorem dL_law_265 : decode cL_law 265 = .ok (.iload_n 3, 1) := by decide +kernel
theorem dL_law_266 : decode cL_law 266 = .ok (.iconst 2, 1) := by decide +kernel
theorem dL_law_267 : decode cL_law 267 = .ok (.iadd, 1) := by decide +kernel
theorem dL_law_268 : decode cL_law 268 = .ok (.iaload, 1) := by decide +kernel
theorem dL_law_269 : decode cL_law 269 = .ok (.aload_n 0, 1) := by decide +kernel
theorem dL_law_270 : decode cL_law 270 = .ok (.iload_n 3, 1) := by decide +kernel
theorem dL_law_271 : decode cL_law 271 = .ok (.iconst 3, 1) := by decide +kernel
theorem dL_law_272 : decode cL_law 272 = .ok (.iadd, 1) := by decide +kernel
theorem dL_law_273 : decode cL_law 273 = .ok (.iaload, 1) := by decide +kernel
theorem dL_law_274 : decode cL_law 274 = .ok (.invokevirtual 23, 3) := by decide +kernel
theorem dL_law_277 : decode cL_law 277 = .ok (.aload_n 2, 1) := by decide +kernel
theorem dL_law_278 : decode cL_law 278 = .ok (.aload_n 0, 1) := by decide +kernel
theorem dL_law_279 : decode cL_law 279 = .ok (.iload_n 3, 1) := by decide +kernel
theorem dL_law_280 : decode cL_law 280 = .ok (.iconst 1, 1) := by decide +kernel
theorem dL_law_281 : decode cL_law 281 = .ok (.iadd, 1) := by decide +kernel
theorem dL_law_282 : decode cL_law 282 = .ok (.iaload, 1) := by decide +kernel
theorem dL_law_283 : decode cL_law 283 = .ok (.aload_n 0, 1) := by decide +kernel
theorem dL_law_284 : decode cL_law 284 = .ok (.iload_n 3, 1) := by decide +kernel
theorem dL_law_285 : decode cL_law 285 = .ok (.iconst 2, 1) := by decide +kernel
theorem dL_law_286 : decode cL_law 286 = .ok (.iadd, 1) := by decide +kernel
theorem dL_law_287 : decode cL_law 287 = .ok (.iaload, 1) := by decide +kernel
theorem dL_law_288 : decode cL_law 288 = .ok (.aload_n 0, 1) := by decide +kernel
theorem dL_law_289 : decode cL_law 289 = .ok (.iload_n 3, 1) := by decide +kernel
theorem dL_law_290 : decode cL_law 290 = .ok (.iconst 3, 1) := by decide +kernel
theorem dL_law_291 : decode cL_law 291 = .ok (.iadd, 1) := by decide +kernel
theorem dL_law_292 : decode cL_law 292 = .ok (.iaload, 1) := by decide +kernel
theorem dL_law_293 : decode cL_law 293 = .ok (.invokevirtual 27, 3) := by decide +kernel
theorem dL_law_296 : decode cL_law 296 = .ok (.if_icmp .eq 838, 3) := by decide +kernel
theorem dL_law_299 : decode cL_law 299 = .ok (.iconst 0, 1) := by decide +kernel
theorem dL_law_300 : decode cL_law 300 = .ok (.ireturn, 1) := by decide +kernel
theorem dL_law_301 : decode cL_law 301 = .ok (.aload_n 1, 1) := by decide +kernel
theorem dL_law_302 : decode cL_law 302 = .ok (.aload_n 0, 1) := by decide +kernel
theorem dL_law_303 : decode cL_law 303 = .ok (.iload_n 3, 1) := by decide +kernel
theorem dL_law_304 : decode cL_law 304 = .ok (.iconst 1, 1) := by decide +kernel
theorem dL_law_305 : decode cL_law 305 = .ok (.iadd, 1) := by decide +kernel
theorem dL_law_306 : decode cL_law 306 = .ok (.iaload, 1) := by decide +kernel
theorem dL_law_307 : decode cL_law 307 = .ok (.aload_n 0, 1) := by decide +kernel
theorem dL_law_308 : decode cL_law 308 = .ok (.iload_n 3, 1) := by decide +kernel
theorem dL_law_309 : decode cL_law 309 = .ok (.iconst 2, 1) := by decide +kernel
theorem dL_law_310 : decode cL_law 310 = .ok (.iadd, 1) := by decide +kernel
theorem dL_law_311 : decode cL_law 311 = .ok (.iaload, 1) := by decide +kernel
theorem dL_law_312 : decode cL_law 312 = .ok (.aload_n 0, 1) := by decide +kernel
theorem dL_law_313 : decode cL_law 313 = .ok (.iload_n 3, 1) := by decide +kernel
theorem dL_law_314 : decode cL_law 314 = .ok (.iconst 3, 1) := by decide +kernel
theorem dL_law_315 : decode cL_law 315 = .ok (.iadd, 1) := by decide +kernel
theorem dL_law_316 : decode cL_law 316 = .ok (.iaload, 1) := by decide +kernel
theorem dL_law_317 : decode cL_law 317 = .ok (.ifCond .eq 7, 3) := by decide +kernel
theorem dL_law_320 : decode cL_law 320 = .ok (.iconst 1, 1) := by decide +kernel
theorem dL_law_321 : decode cL_law 321 = .ok (.goto 4, 3) := by decide +kernel
theorem dL_law_324 : decode cL_law 324 = .ok (.iconst 0, 1) := by decide +kernel
theorem dL_law_325 : decode cL_law 325 = .ok (.invokevirtual 28, 3) := by decide +kernel
theorem dL_law_328 : decode cL_law 328 = .ok (.aload_n 2, 1) := by decide +kernel
theorem dL_law_329 : decode cL_law 329 = .ok (.aload_n 0, 1) := by decide +kernel
theorem dL_law_330 : decode cL_law 330 = .ok (.iload_n 3, 1) := by decide +kernel
theorem dL_law_331 : decode cL_law 331 = .ok (.iconst 1, 1) := by decide +kernel
theorem dL_law_332 : decode cL_law 332 = .ok (.iadd, 1) := by decide +kernel
theorem dL_law_333 : decode cL_law 333 = .ok (.iaload, 1) := by decide +kernel
theorem dL_law_334 : decode cL_law 334 = .ok (.aload_n 0, 1) := by decide +kernel
theorem dL_law_335 : decode cL_law 335 = .ok (.iload_n 3, 1) := by decide +kernel
theorem dL_law_336 : decode cL_law 336 = .ok (.iconst 2, 1) := by decide +kernel
theorem dL_law_337 : decode cL_law 337 = .ok (.iadd, 1) := by decide +kernel
theorem dL_law_338 : decode cL_law 338 = .ok (.iaload, 1) := by decide +kernel
theorem dL_law_339 : decode cL_law 339 = .ok (.aload_n 0, 1) := by decide +kernel
theorem dL_law_340 : decode cL_law 340 = .ok (.iload_n 3, 1) := by decide +kernel
theorem dL_law_341 : decode cL_law 341 = .ok (.iconst 3, 1) := by decide +kernel
theorem dL_law_342 : decode cL_law 342 = .ok (.iadd, 1) := by decide +kernel
theorem dL_law_343 : decode cL_law 343 = .ok (.iaload, 1) := by decide +kernel
theorem dL_law_344 : decode cL_law 344 = .ok (.ifCond .eq 7, 3) := by decide +kernel
theorem dL_law_347 : decode cL_law 347 = .ok (.iconst 1, 1) := by decide +kernel
theorem dL_law_348 : decode cL_law 348 = .ok (.goto 4, 3) := by decide +kernel
theorem dL_law_351 : decode cL_law 351 = .ok (.iconst 0, 1) := by decide +kernel
theorem dL_law_352 : decode cL_law 352 = .ok (.invokevirtual 32, 3) := by decide +kernel
theorem dL_law_355 : decode cL_law 355 = .ok (.if_icmp .eq 779, 3) := by decide +kernel
theorem dL_law_358 : decode cL_law 358 = .ok (.iconst 0, 1) := by decide +kernel
theorem dL_law_359 : decode cL_law 359 = .ok (.ireturn, 1) := by decide +kernel
theorem dL_law_360 : decode cL_law 360 = .ok (.aload_n 1, 1) := by decide +kernel
theorem dL_law_361 : decode cL_law 361 = .ok (.aload_n 0, 1) := by decide +kernel
theorem dL_law_362 : decode cL_law 362 = .ok (.iload_n 3, 1) := by decide +kernel
theorem dL_law_363 : decode cL_law 363 = .ok (.iconst 1, 1) := by decide +kernel
theorem dL_law_364 : decode cL_law 364 = .ok (.iadd, 1) := by decide +kernel
theorem dL_law_365 : decode cL_law 365 = .ok (.iaload, 1) := by decide +kernel
theorem dL_law_366 : decode cL_law 366 = .ok (.invokevirtual 33, 3) := by decide +kernel
theorem dL_law_369 : decode cL_law 369 = .ok (.aload_n 2, 1) := by decide +kernel
theorem dL_law_370 : decode cL_law 370 = .ok (.aload_n 0, 1) := by decide +kernel
theorem dL_law_371 : decode cL_law 371 = .ok (.iload_n 3, 1) := by decide +kernel
theorem dL_law_372 : decode cL_law 372 = .ok (.iconst 1, 1) := by decide +kernel
theorem dL_law_373 : decode cL_law 373 = .ok (.iadd, 1) := by decide +kernel
theorem dL_law_374 : decode cL_law 374 = .ok (.iaload, 1) := by decide +kernel
theorem dL_law_375 : decode cL_law 375 = .ok (.invokevirtual 37, 3) := by decide +kernel
theorem dL_law_378 : decode cL_law 378 = .ok (.if_icmp .eq 756, 3) := by decide +kernel
theorem dL_law_381 : decode cL_law 381 = .ok (.iconst 0, 1) := by decide +kernel
theorem dL_law_382 : decode cL_law 382 = .ok (.ireturn, 1) := by decide +kernel
theorem dL_law_383 : decode cL_law 383 = .ok (.aload_n 1, 1) := by decide +kernel
theorem dL_law_384 : decode cL_law 384 = .ok (.aload_n 0, 1) := by decide +kernel
theorem dL_law_385 : decode cL_law 385 = .ok (.iload_n 3, 1) := by decide +kernel
theorem dL_law_386 : decode cL_law 386 = .ok (.iconst 1, 1) := by decide +kernel
theorem dL_law_387 : decode cL_law 387 = .ok (.iadd, 1) := by decide +kernel
theorem dL_law_388 : decode cL_law 388 = .ok (.iaload, 1) := by decide +kernel
theorem dL_law_389 : decode cL_law 389 = .ok (.aload_n 0, 1) := by decide +kernel
theorem dL_law_390 : decode cL_law 390 = .ok (.iload_n 3, 1) := by decide +kernel
theorem dL_law_391 : decode cL_law 391 = .ok (.iconst 2, 1) := by decide +kernel
theorem dL_law_392 : decode cL_law 392 = .ok (.iadd, 1) := by decide +kernel
theorem dL_law_393 : decode cL_law 393 = .ok (.iaload, 1) := by decide +kernel
theorem dL_law_394 : decode cL_law 394 = .ok (.invokevirtual 38, 3) := by decide +kernel
theorem dL_law_397 : decode cL_law 397 = .ok (.aload_n 2, 1) := by decide +kernel
theorem dL_law_398 : decode cL_law 398 = .ok (.aload_n 0, 1) := by decide +kernel
theorem dL_law_399 : decode cL_law 399 = .ok (.iload_n 3, 1) := by decide +kernel
theorem dL_law_400 : decode cL_law 400 = .ok (.iconst 1, 1) := by decide +kernel
theorem dL_law_401 : decode cL_law 401 = .ok (.iadd, 1) := by decide +kernel
theorem dL_law_402 : decode cL_law 402 = .ok (.iaload, 1) := by decide +kernel
theorem dL_law_403 : decode cL_law 403 = .ok (.aload_n 0, 1) := by decide +kernel
theorem dL_law_404 : decode cL_law 404 = .ok (.iload_n 3, 1) := by decide +kernel
theorem dL_law_405 : decode cL_law 405 = .ok (.iconst 2, 1) := by decide +kernel
theorem dL_law_406 : decode cL_law 406 = .ok (.iadd, 1) := by decide +kernel
theorem dL_law_407 : decode cL_law 407 = .ok (.iaload, 1) := by decide +kernel
theorem dL_law_408 : decode cL_law 408 = .ok (.invokevirtual 41, 3) := by decide +kernel
theorem dL_law_411 : decode cL_law 411 = .ok (.if_icmp .eq 723, 3) := by decide +kernel
theorem dL_law_414 : decode cL_law 414 = .ok (.iconst 0, 1) := by decide +kernel
theorem dL_law_415 : decode cL_law 415 = .ok (.ireturn, 1) := by decide +kernel
theorem dL_law_416 : decode cL_law 416 = .ok (.aload_n 1, 1) := by decide +kernel
theorem dL_law_417 : decode cL_law 417 = .ok (.invokevirtual 42, 3) := by decide +kernel
theorem dL_law_420 : decode cL_law 420 = .ok (.aload_n 2, 1) := by decide +kernel
theorem dL_law_421 : decode cL_law 421 = .ok (.invokevirtual 46, 3) := by decide +kernel
theorem dL_law_424 : decode cL_law 424 = .ok (.if_icmp .eq 710, 3) := by decide +kernel
theorem dL_law_427 : decode cL_law 427 = .ok (.iconst 0, 1) := by decide +kernel
theorem dL_law_428 : decode cL_law 428 = .ok (.ireturn, 1) := by decide +kernel
theorem dL_law_429 : decode cL_law 429 = .ok (.aload_n 1, 1) := by decide +kernel
theorem dL_law_430 : decode cL_law 430 = .ok (.aload_n 0, 1) := by decide +kernel
theorem dL_law_431 : decode cL_law 431 = .ok (.iload_n 3, 1) := by decide +kernel
theorem dL_law_432 : decode cL_law 432 = .ok (.iconst 1, 1) := by decide +kernel
theorem dL_law_433 : decode cL_law 433 = .ok (.iadd, 1) := by decide +kernel
theorem dL_law_434 : decode cL_law 434 = .ok (.iaload, 1) := by decide +kernel
theorem dL_law_435 : decode cL_law 435 = .ok (.invokevirtual 47, 3) := by decide +kernel
theorem dL_law_438 : decode cL_law 438 = .ok (.aload_n 2, 1) := by decide +kernel
theorem dL_law_439 : decode cL_law 439 = .ok (.aload_n 0, 1) := by decide +kernel
theorem dL_law_440 : decode cL_law 440 = .ok (.iload_n 3, 1) := by decide +kernel
theorem dL_law_441 : decode cL_law 441 = .ok (.iconst 1, 1) := by decide +kernel
theorem dL_law_442 : decode cL_law 442 = .ok (.iadd, 1) := by decide +kernel
theorem dL_law_443 : decode cL_law 443 = .ok (.iaload, 1) := by decide +kernel
theorem dL_law_444 : decode cL_law 444 = .ok (.invokevirtual 50, 3) := by decide +kernel
theorem dL_law_447 : decode cL_law 447 = .ok (.if_icmp .eq 687, 3) := by decide +kernel
theorem dL_law_450 : decode cL_law 450 = .ok (.iconst 0, 1) := by decide +kernel
theorem dL_law_451 : decode cL_law 451 = .ok (.ireturn, 1) := by decide +kernel
theorem dL_law_452 : decode cL_law 452 = .ok (.aload_n 1, 1) := by decide +kernel
theorem dL_law_453 : decode cL_law 453 = .ok (.invokevirtual 51, 3) := by decide +kernel
theorem dL_law_456 : decode cL_law 456 = .ok (.aload_n 2, 1) := by decide +kernel
theorem dL_law_457 : decode cL_law 457 = .ok (.invokevirtual 55, 3) := by decide +kernel
theorem dL_law_460 : decode cL_law 460 = .ok (.lcmp, 1) := by decide +kernel
theorem dL_law_461 : decode cL_law 461 = .ok (.ifCond .eq 673, 3) := by decide +kernel
theorem dL_law_464 : decode cL_law 464 = .ok (.iconst 0, 1) := by decide +kernel
theorem dL_law_465 : decode cL_law 465 = .ok (.ireturn, 1) := by decide +kernel
theorem dL_law_466 : decode cL_law 466 = .ok (.aload_n 1, 1) := by decide +kernel
theorem dL_law_467 : decode cL_law 467 = .ok (.aload_n 0, 1) := by decide +kernel
theorem dL_law_468 : decode cL_law 468 = .ok (.iload_n 3, 1) := by decide +kernel
theorem dL_law_469 : decode cL_law 469 = .ok (.iconst 1, 1) := by decide +kernel
theorem dL_law_470 : decode cL_law 470 = .ok (.iadd, 1) := by decide +kernel
theorem dL_law_471 : decode cL_law 471 = .ok (.iaload, 1) := by decide +kernel
theorem dL_law_472 : decode cL_law 472 = .ok (.invokevirtual 56, 3) := by decide +kernel
theorem dL_law_475 : decode cL_law 475 = .ok (.aload_n 2, 1) := by decide +kernel
theorem dL_law_476 : decode cL_law 476 = .ok (.aload_n 0, 1) := by decide +kernel
theorem dL_law_477 : decode cL_law 477 = .ok (.iload_n 3, 1) := by decide +kernel
theorem dL_law_478 : decode cL_law 478 = .ok (.iconst 1, 1) := by decide +kernel
theorem dL_law_479 : decode cL_law 479 = .ok (.iadd, 1) := by decide +kernel
theorem dL_law_480 : decode cL_law 480 = .ok (.iaload, 1) := by decide +kernel
theorem dL_law_481 : decode cL_law 481 = .ok (.invokevirtual 59, 3) := by decide +kernel
theorem dL_law_484 : decode cL_law 484 = .ok (.if_icmp .eq 650, 3) := by decide +kernel
theorem dL_law_487 : decode cL_law 487 = .ok (.iconst 0, 1) := by decide +kernel
theorem dL_law_488 : decode cL_law 488 = .ok (.ireturn, 1) := by decide +kernel
theorem dL_law_489 : decode cL_law 489 = .ok (.aload_n 1, 1) := by decide +kernel
theorem dL_law_490 : decode cL_law 490 = .ok (.aload_n 0, 1) := by decide +kernel
theorem dL_law_491 : decode cL_law 491 = .ok (.iload_n 3, 1) := by decide +kernel
theorem dL_law_492 : decode cL_law 492 = .ok (.iconst 1, 1) := by decide +kernel
theorem dL_law_493 : decode cL_law 493 = .ok (.iadd, 1) := by decide +kernel
theorem dL_law_494 : decode cL_law 494 = .ok (.iaload, 1) := by decide +kernel
theorem dL_law_495 : decode cL_law 495 = .ok (.invokevirtual 60, 3) := by decide +kernel
theorem dL_law_498 : decode cL_law 498 = .ok (.aload_n 2, 1) := by decide +kernel
theorem dL_law_499 : decode cL_law 499 = .ok (.aload_n 0, 1) := by decide +kernel
theorem dL_law_500 : decode cL_law 500 = .ok (.iload_n 3, 1) := by decide +kernel
theorem dL_law_501 : decode cL_law 501 = .ok (.iconst 1, 1) := by decide +kernel
theorem dL_law_502 : decode cL_law 502 = .ok (.iadd, 1) := by decide +kernel
theorem dL_law_503 : decode cL_law 503 = .ok (.iaload, 1) := by decide +kernel
theorem dL_law_504 : decode cL_law 504 = .ok (.invokevirtual 63, 3) := by decide +kernel
theorem dL_law_507 : decode cL_law 507 = .ok (.if_icmp .eq 627, 3) := by decide +kernel
theorem dL_law_510 : decode cL_law 510 = .ok (.iconst 0, 1) := by decide +kernel
theorem dL_law_511 : decode cL_law 511 = .ok (.ireturn, 1) := by decide +kernel
theorem dL_law_512 : decode cL_law 512 = .ok (.aload_n 1, 1) := by decide +kernel
theorem dL_law_513 : decode cL_law 513 = .ok (.aload_n 0, 1) := by decide +kernel
theorem dL_law_514 : decode cL_law 514 = .ok (.iload_n 3, 1) := by decide +kernel
theorem dL_law_515 : decode cL_law 515 = .ok (.iconst 1, 1) := by decide +kernel
theorem dL_law_516 : decode cL_law 516 = .ok (.iadd, 1) := by decide +kernel
theorem dL_law_517 : decode cL_law 517 = .ok (.iaload, 1) := by decide +kernel
theorem dL_law_518 : decode cL_law 518 = .ok (.invokevirtual 64, 3) := by decide +kernel
theorem dL_law_521 : decode cL_law 521 = .ok (.aload_n 2, 1) := by decide +kernel
theorem dL_law_522 : decode cL_law 522 = .ok (.aload_n 0, 1) := by decide +kernel
theorem dL_law_523 : decode cL_law 523 = .ok (.iload_n 3, 1) := by decide +kernel
theorem dL_law_524 : decode cL_law 524 = .ok (.iconst 1, 1) := by decide +kernel
theorem dL_law_525 : decode cL_law 525 = .ok (.iadd, 1) := by decide +kernel
theorem dL_law_526 : decode cL_law 526 = .ok (.iaload, 1) := by decide +kernel
theorem dL_law_527 : decode cL_law 527 = .ok (.invokevirtual 67, 3) := by decide +kernel
theorem dL_law_530 : decode cL_law 530 = .ok (.if_icmp .eq 604, 3) := by decide +kernel
theorem dL_law_533 : decode cL_law 533 = .ok (.iconst 0, 1) := by decide +kernel
theorem dL_law_534 : decode cL_law 534 = .ok (.ireturn, 1) := by decide +kernel
theorem dL_law_535 : decode cL_law 535 = .ok (.aload_n 1, 1) := by decide +kernel
theorem dL_law_536 : decode cL_law 536 = .ok (.aload_n 0, 1) := by decide +kernel
theorem dL_law_537 : decode cL_law 537 = .ok (.iload_n 3, 1) := by decide +kernel
theorem dL_law_538 : decode cL_law 538 = .ok (.iconst 1, 1) := by decide +kernel
theorem dL_law_539 : decode cL_law 539 = .ok (.iadd, 1) := by decide +kernel
theorem dL_law_540 : decode cL_law 540 = .ok (.iaload, 1) := by decide +kernel
theorem dL_law_541 : decode cL_law 541 = .ok (.aload_n 0, 1) := by decide +kernel
theorem dL_law_542 : decode cL_law 542 = .ok (.iload_n 3, 1) := by decide +kernel
theorem dL_law_543 : decode cL_law 543 = .ok (.iconst 2, 1) := by decide +kernel
theorem dL_law_544 : decode cL_law 544 = .ok (.iadd, 1) := by decide +kernel
theorem dL_law_545 : decode cL_law 545 = .ok (.iaload, 1) := by decide +kernel
theorem dL_law_546 : decode cL_law 546 = .ok (.invokevirtual 68, 3) := by decide +kernel
theorem dL_law_549 : decode cL_law 549 = .ok (.aload_n 2, 1) := by decide +kernel
theorem dL_law_550 : decode cL_law 550 = .ok (.aload_n 0, 1) := by decide +kernel
theorem dL_law_551 : decode cL_law 551 = .ok (.iload_n 3, 1) := by decide +kernel
theorem dL_law_552 : decode cL_law 552 = .ok (.iconst 1, 1) := by decide +kernel
theorem dL_law_553 : decode cL_law 553 = .ok (.iadd, 1) := by decide +kernel
theorem dL_law_554 : decode cL_law 554 = .ok (.iaload, 1) := by decide +kernel
theorem dL_law_555 : decode cL_law 555 = .ok (.aload_n 0, 1) := by decide +kernel
theorem dL_law_556 : decode cL_law 556 = .ok (.iload_n 3, 1) := by decide +kernel
theorem dL_law_557 : decode cL_law 557 = .ok (.iconst 2, 1) := by decide +kernel
theorem dL_law_558 : decode cL_law 558 = .ok (.iadd, 1) := by decide +kernel
theorem dL_law_559 : decode cL_law 559 = .ok (.iaload, 1) := by decide +kernel
theorem dL_law_560 : decode cL_law 560 = .ok (.invokevirtual 71, 3) := by decide +kernel
theorem dL_law_563 : decode cL_law 563 = .ok (.if_icmp .eq 571, 3) := by decide +kernel
theorem dL_law_566 : decode cL_law 566 = .ok (.iconst 0, 1) := by decide +kernel
theorem dL_law_567 : decode cL_law 567 = .ok (.ireturn, 1) := by decide +kernel
theorem dL_law_568 : decode cL_law 568 = .ok (.aload_n 1, 1) := by decide +kernel
theorem dL_law_569 : decode cL_law 569 = .ok (.aload_n 0, 1) := by decide +kernel
theorem dL_law_570 : decode cL_law 570 = .ok (.iload_n 3, 1) := by decide +kernel
theorem dL_law_571 : decode cL_law 571 = .ok (.iconst 1, 1) := by decide +kernel
theorem dL_law_572 : decode cL_law 572 = .ok (.iadd, 1) := by decide +kernel
theorem dL_law_573 : decode cL_law 573 = .ok (.iaload, 1) := by decide +kernel
theorem dL_law_574 : decode cL_law 574 = .ok (.invokevirtual 72, 3) := by decide +kernel
theorem dL_law_577 : decode cL_law 577 = .ok (.aload_n 2, 1) := by decide +kernel
theorem dL_law_578 : decode cL_law 578 = .ok (.aload_n 0, 1) := by decide +kernel
theorem dL_law_579 : decode cL_law 579 = .ok (.iload_n 3, 1) := by decide +kernel
theorem dL_law_580 : decode cL_law 580 = .ok (.iconst 1, 1) := by decide +kernel
theorem dL_law_581 : decode cL_law 581 = .ok (.iadd, 1) := by decide +kernel
theorem dL_law_582 : decode cL_law 582 = .ok (.iaload, 1) := by decide +kernel
theorem dL_law_583 : decode cL_law 583 = .ok (.invokevirtual 75, 3) := by decide +kernel
theorem dL_law_586 : decode cL_law 586 = .ok (.if_icmp .eq 548, 3) := by decide +kernel
theorem dL_law_589 : decode cL_law 589 = .ok (.iconst 0, 1) := by decide +kernel
theorem dL_law_590 : decode cL_law 590 = .ok (.ireturn, 1) := by decide +kernel
theorem dL_law_591 : decode cL_law 591 = .ok (.aload_n 1, 1) := by decide +kernel
theorem dL_law_592 : decode cL_law 592 = .ok (.invokevirtual 76, 3) := by decide +kernel
theorem dL_law_595 : decode cL_law 595 = .ok (.aload_n 2, 1) := by decide +kernel
theorem dL_law_596 : decode cL_law 596 = .ok (.invokevirtual 79, 3) := by decide +kernel
theorem dL_law_599 : decode cL_law 599 = .ok (.if_icmp .eq 535, 3) := by decide +kernel
theorem dL_law_602 : decode cL_law 602 = .ok (.iconst 0, 1) := by decide +kernel
theorem dL_law_603 : decode cL_law 603 = .ok (.ireturn, 1) := by decide +kernel
theorem dL_law_604 : decode cL_law 604 = .ok (.aload_n 1, 1) := by decide +kernel
theorem dL_law_605 : decode cL_law 605 = .ok (.aload_n 0, 1) := by decide +kernel
theorem dL_law_606 : decode cL_law 606 = .ok (.iload_n 3, 1) := by decide +kernel
theorem dL_law_607 : decode cL_law 607 = .ok (.iconst 1, 1) := by decide +kernel
theorem dL_law_608 : decode cL_law 608 = .ok (.iadd, 1) := by decide +kernel
theorem dL_law_609 : decode cL_law 609 = .ok (.iaload, 1) := by decide +kernel
theorem dL_law_610 : decode cL_law 610 = .ok (.invokevirtual 80, 3) := by decide +kernel
theorem dL_law_613 : decode cL_law 613 = .ok (.aload_n 2, 1) := by decide +kernel
theorem dL_law_614 : decode cL_law 614 = .ok (.aload_n 0, 1) := by decide +kernel
theorem dL_law_615 : decode cL_law 615 = .ok (.iload_n 3, 1) := by decide +kernel
theorem dL_law_616 : decode cL_law 616 = .ok (.iconst 1, 1) := by decide +kernel
theorem dL_law_617 : decode cL_law 617 = .ok (.iadd, 1) := by decide +kernel
theorem dL_law_618 : decode cL_law 618 = .ok (.iaload, 1) := by decide +kernel
theorem dL_law_619 : decode cL_law 619 = .ok (.invokevirtual 83, 3) := by decide +kernel
theorem dL_law_622 : decode cL_law 622 = .ok (.if_icmp .eq 512, 3) := by decide +kernel
theorem dL_law_625 : decode cL_law 625 = .ok (.iconst 0, 1) := by decide +kernel
theorem dL_law_626 : decode cL_law 626 = .ok (.ireturn, 1) := by decide +kernel
theorem dL_law_627 : decode cL_law 627 = .ok (.aload_n 1, 1) := by decide +kernel
theorem dL_law_628 : decode cL_law 628 = .ok (.aload_n 0, 1) := by decide +kernel
theorem dL_law_629 : decode cL_law 629 = .ok (.iload_n 3, 1) := by decide +kernel
theorem dL_law_630 : decode cL_law 630 = .ok (.iconst 1, 1) := by decide +kernel
theorem dL_law_631 : decode cL_law 631 = .ok (.iadd, 1) := by decide +kernel
theorem dL_law_632 : decode cL_law 632 = .ok (.iaload, 1) := by decide +kernel
theorem dL_law_633 : decode cL_law 633 = .ok (.invokevirtual 84, 3) := by decide +kernel
theorem dL_law_636 : decode cL_law 636 = .ok (.aload_n 2, 1) := by decide +kernel
theorem dL_law_637 : decode cL_law 637 = .ok (.aload_n 0, 1) := by decide +kernel
theorem dL_law_638 : decode cL_law 638 = .ok (.iload_n 3, 1) := by decide +kernel
theorem dL_law_639 : decode cL_law 639 = .ok (.iconst 1, 1) := by decide +kernel
theorem dL_law_640 : decode cL_law 640 = .ok (.iadd, 1) := by decide +kernel
theorem dL_law_641 : decode cL_law 641 = .ok (.iaload, 1) := by decide +kernel
theorem dL_law_642 : decode cL_law 642 = .ok (.invokevirtual 87, 3) := by decide +kernel
theorem dL_law_645 : decode cL_law 645 = .ok (.if_icmp .eq 489, 3) := by decide +kernel
theorem dL_law_648 : decode cL_law 648 = .ok (.iconst 0, 1) := by decide +kernel
theorem dL_law_649 : decode cL_law 649 = .ok (.ireturn, 1) := by decide +kernel
theorem dL_law_650 : decode cL_law 650 = .ok (.aload_n 1, 1) := by decide +kernel
theorem dL_law_651 : decode cL_law 651 = .ok (.aload_n 0, 1) := by decide +kernel
theorem dL_law_652 : decode cL_law 652 = .ok (.iload_n 3, 1) := by decide +kernel
theorem dL_law_653 : decode cL_law 653 = .ok (.iconst 1, 1) := by decide +kernel
theorem dL_law_654 : decode cL_law 654 = .ok (.iadd, 1) := by decide +kernel
theorem dL_law_655 : decode cL_law 655 = .ok (.iaload, 1) := by decide +kernel
theorem dL_law_656 : decode cL_law 656 = .ok (.aload_n 0, 1) := by decide +kernel
theorem dL_law_657 : decode cL_law 657 = .ok (.iload_n 3, 1) := by decide +kernel
theorem dL_law_658 : decode cL_law 658 = .ok (.iconst 2, 1) := by decide +kernel
theorem dL_law_659 : decode cL_law 659 = .ok (.iadd, 1) := by decide +kernel
theorem dL_law_660 : decode cL_law 660 = .ok (.iaload, 1) := by decide +kernel
theorem dL_law_661 : decode cL_law 661 = .ok (.invokevirtual 88, 3) := by decide +kernel
theorem dL_law_664 : decode cL_law 664 = .ok (.aload_n 2, 1) := by decide +kernel
theorem dL_law_665 : decode cL_law 665 = .ok (.aload_n 0, 1) := by decide +kernel
theorem dL_law_666 : decode cL_law 666 = .ok (.iload_n 3, 1) := by decide +kernel
theorem dL_law_667 : decode cL_law 667 = .ok (.iconst 1, 1) := by decide +kernel
theorem dL_law_668 : decode cL_law 668 = .ok (.iadd, 1) := by decide +kernel
theorem dL_law_669 : decode cL_law 669 = .ok (.iaload, 1) := by decide +kernel
theorem dL_law_670 : decode cL_law 670 = .ok (.aload_n 0, 1) := by decide +kernel
theorem dL_law_671 : decode cL_law 671 = .ok (.iload_n 3, 1) := by decide +kernel
theorem dL_law_672 : decode cL_law 672 = .ok (.iconst 2, 1) := by decide +kernel
theorem dL_law_673 : decode cL_law 673 = .ok (.iadd, 1) := by decide +kernel
theorem dL_law_674 : decode cL_law 674 = .ok (.iaload, 1) := by decide +kernel
theorem dL_law_675 : decode cL_law 675 = .ok (.invokevirtual 92, 3) := by decide +kernel
theorem dL_law_678 : decode cL_law 678 = .ok (.lcmp, 1) := by decide +kernel
theorem dL_law_679 : decode cL_law 679 = .ok (.ifCond .eq 455, 3) := by decide +kernel
theorem dL_law_682 : decode cL_law 682 = .ok (.iconst 0, 1) := by decide +kernel
theorem dL_law_683 : decode cL_law 683 = .ok (.ireturn, 1) := by decide +kernel
theorem dL_law_684 : decode cL_law 684 = .ok (.aload_n 1, 1) := by decide +kernel
theorem dL_law_685 : decode cL_law 685 = .ok (.aload_n 0, 1) := by decide +kernel
theorem dL_law_686 : decode cL_law 686 = .ok (.iload_n 3, 1) := by decide +kernel
theorem dL_law_687 : decode cL_law 687 = .ok (.iconst 1, 1) := by decide +kernel
theorem dL_law_688 : decode cL_law 688 = .ok (.iadd, 1) := by decide +kernel
theorem dL_law_689 : decode cL_law 689 = .ok (.iaload, 1) := by decide +kernel
theorem dL_law_690 : decode cL_law 690 = .ok (.invokevirtual 93, 3) := by decide +kernel
theorem dL_law_693 : decode cL_law 693 = .ok (.aload_n 2, 1) := by decide +kernel
theorem dL_law_694 : decode cL_law 694 = .ok (.aload_n 0, 1) := by decide +kernel
theorem dL_law_695 : decode cL_law 695 = .ok (.iload_n 3, 1) := by decide +kernel
theorem dL_law_696 : decode cL_law 696 = .ok (.iconst 1, 1) := by decide +kernel
theorem dL_law_697 : decode cL_law 697 = .ok (.iadd, 1) := by decide +kernel
theorem dL_law_698 : decode cL_law 698 = .ok (.iaload, 1) := by decide +kernel
theorem dL_law_699 : decode cL_law 699 = .ok (.invokevirtual 96, 3) := by decide +kernel
theorem dL_law_702 : decode cL_law 702 = .ok (.if_icmp .eq 432, 3) := by decide +kernel
theorem dL_law_705 : decode cL_law 705 = .ok (.iconst 0, 1) := by decide +kernel
theorem dL_law_706 : decode cL_law 706 = .ok (.ireturn, 1) := by decide +kernel
theorem dL_law_707 : decode cL_law 707 = .ok (.aload_n 1, 1) := by decide +kernel
theorem dL_law_708 : decode cL_law 708 = .ok (.aload_n 0, 1) := by decide +kernel
theorem dL_law_709 : decode cL_law 709 = .ok (.iload_n 3, 1) := by decide +kernel
theorem dL_law_710 : decode cL_law 710 = .ok (.iconst 1, 1) := by decide +kernel
theorem dL_law_711 : decode cL_law 711 = .ok (.iadd, 1) := by decide +kernel
theorem dL_law_712 : decode cL_law 712 = .ok (.iaload, 1) := by decide +kernel
theorem dL_law_713 : decode cL_law 713 = .ok (.invokevirtual 97, 3) := by decide +kernel
theorem dL_law_716 : decode cL_law 716 = .ok (.aload_n 2, 1) := by decide +kernel
theorem dL_law_717 : decode cL_law 717 = .ok (.aload_n 0, 1) := by decide +kernel
theorem dL_law_718 : decode cL_law 718 = .ok (.iload_n 3, 1) := by decide +kernel
theorem dL_law_719 : decode cL_law 719 = .ok (.iconst 1, 1) := by decide +kernel
theorem dL_law_720 : decode cL_law 720 = .ok (.iadd, 1) := by decide +kernel
theorem dL_law_721 : decode cL_law 721 = .ok (.iaload, 1) := by decide +kernel
theorem dL_law_722 : decode cL_law 722 = .ok (.invokevirtual 100, 3) := by decide +kernel
theorem dL_law_725 : decode cL_law 725 = .ok (.if_icmp .eq 409, 3) := by decide +kernel
theorem dL_law_728 : decode cL_law 728 = .ok (.iconst 0, 1) := by decide +kernel
theorem dL_law_729 : decode cL_law 729 = .ok (.ireturn, 1) := by decide +kernel
theorem dL_law_730 : decode cL_law 730 = .ok (.aload_n 1, 1) := by decide +kernel
theorem dL_law_731 : decode cL_law 731 = .ok (.aload_n 0, 1) := by decide +kernel
theorem dL_law_732 : decode cL_law 732 = .ok (.iload_n 3, 1) := by decide +kernel
theorem dL_law_733 : decode cL_law 733 = .ok (.iconst 1, 1) := by decide +kernel
theorem dL_law_734 : decode cL_law 734 = .ok (.iadd, 1) := by decide +kernel
theorem dL_law_735 : decode cL_law 735 = .ok (.iaload, 1) := by decide +kernel
theorem dL_law_736 : decode cL_law 736 = .ok (.aload_n 0, 1) := by decide +kernel
theorem dL_law_737 : decode cL_law 737 = .ok (.iload_n 3, 1) := by decide +kernel
theorem dL_law_738 : decode cL_law 738 = .ok (.iconst 2, 1) := by decide +kernel
theorem dL_law_739 : decode cL_law 739 = .ok (.iadd, 1) := by decide +kernel
theorem dL_law_740 : decode cL_law 740 = .ok (.iaload, 1) := by decide +kernel
theorem dL_law_741 : decode cL_law 741 = .ok (.aload_n 0, 1) := by decide +kernel
theorem dL_law_742 : decode cL_law 742 = .ok (.iload_n 3, 1) := by decide +kernel
theorem dL_law_743 : decode cL_law 743 = .ok (.iconst 3, 1) := by decide +kernel
theorem dL_law_744 : decode cL_law 744 = .ok (.iadd, 1) := by decide +kernel
theorem dL_law_745 : decode cL_law 745 = .ok (.iaload, 1) := by decide +kernel
theorem dL_law_746 : decode cL_law 746 = .ok (.invokevirtual 101, 3) := by decide +kernel
theorem dL_law_749 : decode cL_law 749 = .ok (.aload_n 2, 1) := by decide +kernel
theorem dL_law_750 : decode cL_law 750 = .ok (.aload_n 0, 1) := by decide +kernel
theorem dL_law_751 : decode cL_law 751 = .ok (.iload_n 3, 1) := by decide +kernel
theorem dL_law_752 : decode cL_law 752 = .ok (.iconst 1, 1) := by decide +kernel
theorem dL_law_753 : decode cL_law 753 = .ok (.iadd, 1) := by decide +kernel
theorem dL_law_754 : decode cL_law 754 = .ok (.iaload, 1) := by decide +kernel
theorem dL_law_755 : decode cL_law 755 = .ok (.aload_n 0, 1) := by decide +kernel
theorem dL_law_756 : decode cL_law 756 = .ok (.iload_n 3, 1) := by decide +kernel
theorem dL_law_757 : decode cL_law 757 = .ok (.iconst 2, 1) := by decide +kernel
theorem dL_law_758 : decode cL_law 758 = .ok (.iadd, 1) := by decide +kernel
theorem dL_law_759 : decode cL_law 759 = .ok (.iaload, 1) := by decide +kernel
theorem dL_law_760 : decode cL_law 760 = .ok (.aload_n 0, 1) := by decide +kernel
theorem dL_law_761 : decode cL_law 761 = .ok (.iload_n 3, 1) := by decide +kernel
theorem dL_law_762 : decode cL_law 762 = .ok (.iconst 3, 1) := by decide +kernel
theorem dL_law_763 : decode cL_law 763 = .ok (.iadd, 1) := by decide +kernel
theorem dL_law_764 : decode cL_law 764 = .ok (.iaload, 1) := by decide +kernel
theorem dL_law_765 : decode cL_law 765 = .ok (.invokevirtual 104, 3) := by decide +kernel
theorem dL_law_768 : decode cL_law 768 = .ok (.if_icmp .eq 366, 3) := by decide +kernel
theorem dL_law_771 : decode cL_law 771 = .ok (.iconst 0, 1) := by decide +kernel
theorem dL_law_772 : decode cL_law 772 = .ok (.ireturn, 1) := by decide +kernel
theorem dL_law_773 : decode cL_law 773 = .ok (.aload_n 1, 1) := by decide +kernel
theorem dL_law_774 : decode cL_law 774 = .ok (.invokevirtual 105, 3) := by decide +kernel
theorem dL_law_777 : decode cL_law 777 = .ok (.aload_n 2, 1) := by decide +kernel
theorem dL_law_778 : decode cL_law 778 = .ok (.invokevirtual 108, 3) := by decide +kernel
theorem dL_law_781 : decode cL_law 781 = .ok (.if_icmp .eq 353, 3) := by decide +kernel
theorem dL_law_784 : decode cL_law 784 = .ok (.iconst 0, 1) := by decide +kernel
theorem dL_law_785 : decode cL_law 785 = .ok (.ireturn, 1) := by decide +kernel
theorem dL_law_786 : decode cL_law 786 = .ok (.aload_n 1, 1) := by decide +kernel
theorem dL_law_787 : decode cL_law 787 = .ok (.invokevirtual 109, 3) := by decide +kernel
theorem dL_law_790 : decode cL_law 790 = .ok (.aload_n 2, 1) := by decide +kernel
theorem dL_law_791 : decode cL_law 791 = .ok (.invokevirtual 112, 3) := by decide +kernel
theorem dL_law_794 : decode cL_law 794 = .ok (.if_icmp .eq 340, 3) := by decide +kernel
theorem dL_law_797 : decode cL_law 797 = .ok (.iconst 0, 1) := by decide +kernel
theorem dL_law_798 : decode cL_law 798 = .ok (.ireturn, 1) := by decide +kernel
theorem dL_law_799 : decode cL_law 799 = .ok (.aload_n 1, 1) := by decide +kernel
theorem dL_law_800 : decode cL_law 800 = .ok (.aload_n 0, 1) := by decide +kernel
theorem dL_law_801 : decode cL_law 801 = .ok (.iload_n 3, 1) := by decide +kernel
theorem dL_law_802 : decode cL_law 802 = .ok (.iconst 1, 1) := by decide +kernel
theorem dL_law_803 : decode cL_law 803 = .ok (.iadd, 1) := by decide +kernel
theorem dL_law_804 : decode cL_law 804 = .ok (.iaload, 1) := by decide +kernel
theorem dL_law_805 : decode cL_law 805 = .ok (.aload_n 0, 1) := by decide +kernel
theorem dL_law_806 : decode cL_law 806 = .ok (.iload_n 3, 1) := by decide +kernel
theorem dL_law_807 : decode cL_law 807 = .ok (.iconst 2, 1) := by decide +kernel
theorem dL_law_808 : decode cL_law 808 = .ok (.iadd, 1) := by decide +kernel
theorem dL_law_809 : decode cL_law 809 = .ok (.iaload, 1) := by decide +kernel
theorem dL_law_810 : decode cL_law 810 = .ok (.aload_n 0, 1) := by decide +kernel
theorem dL_law_811 : decode cL_law 811 = .ok (.iload_n 3, 1) := by decide +kernel
theorem dL_law_812 : decode cL_law 812 = .ok (.iconst 3, 1) := by decide +kernel
theorem dL_law_813 : decode cL_law 813 = .ok (.iadd, 1) := by decide +kernel
theorem dL_law_814 : decode cL_law 814 = .ok (.iaload, 1) := by decide +kernel
theorem dL_law_815 : decode cL_law 815 = .ok (.invokevirtual 113, 3) := by decide +kernel
theorem dL_law_818 : decode cL_law 818 = .ok (.aload_n 2, 1) := by decide +kernel
theorem dL_law_819 : decode cL_law 819 = .ok (.aload_n 0, 1) := by decide +kernel
theorem dL_law_820 : decode cL_law 820 = .ok (.iload_n 3, 1) := by decide +kernel
theorem dL_law_821 : decode cL_law 821 = .ok (.iconst 1, 1) := by decide +kernel
theorem dL_law_822 : decode cL_law 822 = .ok (.iadd, 1) := by decide +kernel
theorem dL_law_823 : decode cL_law 823 = .ok (.iaload, 1) := by decide +kernel
theorem dL_law_824 : decode cL_law 824 = .ok (.aload_n 0, 1) := by decide +kernel
theorem dL_law_825 : decode cL_law 825 = .ok (.iload_n 3, 1) := by decide +kernel
theorem dL_law_826 : decode cL_law 826 = .ok (.iconst 2, 1) := by decide +kernel
theorem dL_law_827 : decode cL_law 827 = .ok (.iadd, 1) := by decide +kernel
theorem dL_law_828 : decode cL_law 828 = .ok (.iaload, 1) := by decide +kernel
theorem dL_law_829 : decode cL_law 829 = .ok (.aload_n 0, 1) := by decide +kernel
theorem dL_law_830 : decode cL_law 830 = .ok (.iload_n 3, 1) := by decide +kernel
theorem dL_law_831 : decode cL_law 831 = .ok (.iconst 3, 1) := by decide +kernel
theorem dL_law_832 : decode cL_law 832 = .ok (.iadd, 1) := by decide +kernel
theorem dL_law_833 : decode cL_law 833 = .ok (.iaload, 1) := by decide +kernel
theorem dL_law_834 : decode cL_law 834 = .ok (.invokevirtual 116, 3) := by decide +kernel
theorem dL_law_837 : decode cL_law 837 = .ok (.if_icmp .eq 297, 3) := by decide +kernel
theorem dL_law_840 : decode cL_law 840 = .ok (.iconst 0, 1) := by decide +kernel
theorem dL_law_841 : decode cL_law 841 = .ok (.ireturn, 1) := by decide +kernel
theorem dL_law_842 : decode cL_law 842 = .ok (.aload_n 1, 1) := by decide +kernel
theorem dL_law_843 : decode cL_law 843 = .ok (.aload_n 0, 1) := by decide +kernel
theorem dL_law_844 : decode cL_law 844 = .ok (.iload_n 3, 1) := by decide +kernel
theorem dL_law_845 : decode cL_law 845 = .ok (.iconst 1, 1) := by decide +kernel
theorem dL_law_846 : decode cL_law 846 = .ok (.iadd, 1) := by decide +kernel
theorem dL_law_847 : decode cL_law 847 = .ok (.iaload, 1) := by decide +kernel
theorem dL_law_848 : decode cL_law 848 = .ok (.invokevirtual 117, 3) := by decide +kernel
theorem dL_law_851 : decode cL_law 851 = .ok (.aload_n 2, 1) := by decide +kernel
theorem dL_law_852 : decode cL_law 852 = .ok (.aload_n 0, 1) := by decide +kernel
theorem dL_law_853 : decode cL_law 853 = .ok (.iload_n 3, 1) := by decide +kernel
theorem dL_law_854 : decode cL_law 854 = .ok (.iconst 1, 1) := by decide +kernel
theorem dL_law_855 : decode cL_law 855 = .ok (.iadd, 1) := by decide +kernel
theorem dL_law_856 : decode cL_law 856 = .ok (.iaload, 1) := by decide +kernel
theorem dL_law_857 : decode cL_law 857 = .ok (.invokevirtual 120, 3) := by decide +kernel
theorem dL_law_860 : decode cL_law 860 = .ok (.if_icmp .eq 274, 3) := by decide +kernel
theorem dL_law_863 : decode cL_law 863 = .ok (.iconst 0, 1) := by decide +kernel
theorem dL_law_864 : decode cL_law 864 = .ok (.ireturn, 1) := by decide +kernel
theorem dL_law_865 : decode cL_law 865 = .ok (.aload_n 1, 1) := by decide +kernel
theorem dL_law_866 : decode cL_law 866 = .ok (.aload_n 0, 1) := by decide +kernel
theorem dL_law_867 : decode cL_law 867 = .ok (.iload_n 3, 1) := by decide +kernel
theorem dL_law_868 : decode cL_law 868 = .ok (.iconst 1, 1) := by decide +kernel
theorem dL_law_869 : decode cL_law 869 = .ok (.iadd, 1) := by decide +kernel
theorem dL_law_870 : decode cL_law 870 = .ok (.iaload, 1) := by decide +kernel
theorem dL_law_871 : decode cL_law 871 = .ok (.aload_n 0, 1) := by decide +kernel
theorem dL_law_872 : decode cL_law 872 = .ok (.iload_n 3, 1) := by decide +kernel
theorem dL_law_873 : decode cL_law 873 = .ok (.iconst 2, 1) := by decide +kernel
theorem dL_law_874 : decode cL_law 874 = .ok (.iadd, 1) := by decide +kernel
theorem dL_law_875 : decode cL_law 875 = .ok (.iaload, 1) := by decide +kernel
theorem dL_law_876 : decode cL_law 876 = .ok (.invokevirtual 121, 3) := by decide +kernel
theorem dL_law_879 : decode cL_law 879 = .ok (.aload_n 2, 1) := by decide +kernel
theorem dL_law_880 : decode cL_law 880 = .ok (.aload_n 0, 1) := by decide +kernel
theorem dL_law_881 : decode cL_law 881 = .ok (.iload_n 3, 1) := by decide +kernel
theorem dL_law_882 : decode cL_law 882 = .ok (.iconst 1, 1) := by decide +kernel
theorem dL_law_883 : decode cL_law 883 = .ok (.iadd, 1) := by decide +kernel
theorem dL_law_884 : decode cL_law 884 = .ok (.iaload, 1) := by decide +kernel
theorem dL_law_885 : decode cL_law 885 = .ok (.aload_n 0, 1) := by decide +kernel
theorem dL_law_886 : decode cL_law 886 = .ok (.iload_n 3, 1) := by decide +kernel
theorem dL_law_887 : decode cL_law 887 = .ok (.iconst 2, 1) := by decide +kernel
theorem dL_law_888 : decode cL_law 888 = .ok (.iadd, 1) := by decide +kernel
theorem dL_law_889 : decode cL_law 889 = .ok (.iaload, 1) := by decide +kernel
theorem dL_law_890 : decode cL_law 890 = .ok (.invokevirtual 124, 3) := by decide +kernel
theorem dL_law_893 : decode cL_law 893 = .ok (.if_icmp .eq 241, 3) := by decide +kernel
theorem dL_law_896 : decode cL_law 896 = .ok (.iconst 0, 1) := by decide +kernel
theorem dL_law_897 : decode cL_law 897 = .ok (.ireturn, 1) := by decide +kernel
theorem dL_law_898 : decode cL_law 898 = .ok (.aload_n 1, 1) := by decide +kernel
theorem dL_law_899 : decode cL_law 899 = .ok (.aload_n 0, 1) := by decide +kernel
theorem dL_law_900 : decode cL_law 900 = .ok (.iload_n 3, 1) := by decide +kernel
theorem dL_law_901 : decode cL_law 901 = .ok (.iconst 1, 1) := by decide +kernel
theorem dL_law_902 : decode cL_law 902 = .ok (.iadd, 1) := by decide +kernel
theorem dL_law_903 : decode cL_law 903 = .ok (.iaload, 1) := by decide +kernel
theorem dL_law_904 : decode cL_law 904 = .ok (.invokevirtual 125, 3) := by decide +kernel
theorem dL_law_907 : decode cL_law 907 = .ok (.aload_n 2, 1) := by decide +kernel
theorem dL_law_908 : decode cL_law 908 = .ok (.aload_n 0, 1) := by decide +kernel
theorem dL_law_909 : decode cL_law 909 = .ok (.iload_n 3, 1) := by decide +kernel
theorem dL_law_910 : decode cL_law 910 = .ok (.iconst 1, 1) := by decide +kernel
theorem dL_law_911 : decode cL_law 911 = .ok (.iadd, 1) := by decide +kernel
theorem dL_law_912 : decode cL_law 912 = .ok (.iaload, 1) := by decide +kernel
theorem dL_law_913 : decode cL_law 913 = .ok (.invokevirtual 128, 3) := by decide +kernel
theorem dL_law_916 : decode cL_law 916 = .ok (.if_icmp .eq 218, 3) := by decide +kernel
theorem dL_law_919 : decode cL_law 919 = .ok (.iconst 0, 1) := by decide +kernel
theorem dL_law_920 : decode cL_law 920 = .ok (.ireturn, 1) := by decide +kernel
theorem dL_law_921 : decode cL_law 921 = .ok (.aload_n 1, 1) := by decide +kernel
theorem dL_law_922 : decode cL_law 922 = .ok (.aload_n 0, 1) := by decide +kernel
theorem dL_law_923 : decode cL_law 923 = .ok (.iload_n 3, 1) := by decide +kernel
theorem dL_law_924 : decode cL_law 924 = .ok (.iconst 1, 1) := by decide +kernel
theorem dL_law_925 : decode cL_law 925 = .ok (.iadd, 1) := by decide +kernel
theorem dL_law_926 : decode cL_law 926 = .ok (.iaload, 1) := by decide +kernel
theorem dL_law_927 : decode cL_law 927 = .ok (.aload_n 0, 1) := by decide +kernel
theorem dL_law_928 : decode cL_law 928 = .ok (.iload_n 3, 1) := by decide +kernel
theorem dL_law_929 : decode cL_law 929 = .ok (.iconst 2, 1) := by decide +kernel
theorem dL_law_930 : decode cL_law 930 = .ok (.iadd, 1) := by decide +kernel
theorem dL_law_931 : decode cL_law 931 = .ok (.iaload, 1) := by decide +kernel
theorem dL_law_932 : decode cL_law 932 = .ok (.aload_n 0, 1) := by decide +kernel
theorem dL_law_933 : decode cL_law 933 = .ok (.iload_n 3, 1) := by decide +kernel
theorem dL_law_934 : decode cL_law 934 = .ok (.iconst 3, 1) := by decide +kernel
theorem dL_law_935 : decode cL_law 935 = .ok (.iadd, 1) := by decide +kernel
theorem dL_law_936 : decode cL_law 936 = .ok (.iaload, 1) := by decide +kernel
theorem dL_law_937 : decode cL_law 937 = .ok (.invokevirtual 129, 3) := by decide +kernel
theorem dL_law_940 : decode cL_law 940 = .ok (.aload_n 2, 1) := by decide +kernel
theorem dL_law_941 : decode cL_law 941 = .ok (.aload_n 0, 1) := by decide +kernel
theorem dL_law_942 : decode cL_law 942 = .ok (.iload_n 3, 1) := by decide +kernel
theorem dL_law_943 : decode cL_law 943 = .ok (.iconst 1, 1) := by decide +kernel
theorem dL_law_944 : decode cL_law 944 = .ok (.iadd, 1) := by decide +kernel
theorem dL_law_945 : decode cL_law 945 = .ok (.iaload, 1) := by decide +kernel
theorem dL_law_946 : decode cL_law 946 = .ok (.aload_n 0, 1) := by decide +kernel
theorem dL_law_947 : decode cL_law 947 = .ok (.iload_n 3, 1) := by decide +kernel
theorem dL_law_948 : decode cL_law 948 = .ok (.iconst 2, 1) := by decide +kernel
theorem dL_law_949 : decode cL_law 949 = .ok (.iadd, 1) := by decide +kernel
theorem dL_law_950 : decode cL_law 950 = .ok (.iaload, 1) := by decide +kernel
theorem dL_law_951 : decode cL_law 951 = .ok (.aload_n 0, 1) := by decide +kernel
theorem dL_law_952 : decode cL_law 952 = .ok (.iload_n 3, 1) := by decide +kernel
theorem dL_law_953 : decode cL_law 953 = .ok (.iconst 3, 1) := by decide +kernel
theorem dL_law_954 : decode cL_law 954 = .ok (.iadd, 1) := by decide +kernel
theorem dL_law_955 : decode cL_law 955 = .ok (.iaload, 1) := by decide +kernel
theorem dL_law_956 : decode cL_law 956 = .ok (.invokevirtual 132, 3) := by decide +kernel
theorem dL_law_959 : decode cL_law 959 = .ok (.if_icmp .eq 175, 3) := by decide +kernel
theorem dL_law_962 : decode cL_law 962 = .ok (.iconst 0, 1) := by decide +kernel
theorem dL_law_963 : decode cL_law 963 = .ok (.ireturn, 1) := by decide +kernel
theorem dL_law_964 : decode cL_law 964 = .ok (.aload_n 1, 1) := by decide +kernel
theorem dL_law_965 : decode cL_law 965 = .ok (.aload_n 0, 1) := by decide +kernel
theorem dL_law_966 : decode cL_law 966 = .ok (.iload_n 3, 1) := by decide +kernel
theorem dL_law_967 : decode cL_law 967 = .ok (.iconst 1, 1) := by decide +kernel
theorem dL_law_968 : decode cL_law 968 = .ok (.iadd, 1) := by decide +kernel
theorem dL_law_969 : decode cL_law 969 = .ok (.iaload, 1) := by decide +kernel
theorem dL_law_970 : decode cL_law 970 = .ok (.aload_n 0, 1) := by decide +kernel
theorem dL_law_971 : decode cL_law 971 = .ok (.iload_n 3, 1) := by decide +kernel
theorem dL_law_972 : decode cL_law 972 = .ok (.iconst 2, 1) := by decide +kernel
theorem dL_law_973 : decode cL_law 973 = .ok (.iadd, 1) := by decide +kernel
theorem dL_law_974 : decode cL_law 974 = .ok (.iaload, 1) := by decide +kernel
theorem dL_law_975 : decode cL_law 975 = .ok (.aload_n 0, 1) := by decide +kernel
theorem dL_law_976 : decode cL_law 976 = .ok (.iload_n 3, 1) := by decide +kernel
theorem dL_law_977 : decode cL_law 977 = .ok (.iconst 3, 1) := by decide +kernel
theorem dL_law_978 : decode cL_law 978 = .ok (.iadd, 1) := by decide +kernel
theorem dL_law_979 : decode cL_law 979 = .ok (.iaload, 1) := by decide +kernel
theorem dL_law_980 : decode cL_law 980 = .ok (.i2l, 1) := by decide +kernel
theorem dL_law_981 : decode cL_law 981 = .ok (.bipush 32, 2) := by decide +kernel
theorem dL_law_983 : decode cL_law 983 = .ok (.lshl, 1) := by decide +kernel
theorem dL_law_984 : decode cL_law 984 = .ok (.aload_n 0, 1) := by decide +kernel
theorem dL_law_985 : decode cL_law 985 = .ok (.iload_n 3, 1) := by decide +kernel
theorem dL_law_986 : decode cL_law 986 = .ok (.iconst 4, 1) := by decide +kernel
theorem dL_law_987 : decode cL_law 987 = .ok (.iadd, 1) := by decide +kernel
theorem dL_law_988 : decode cL_law 988 = .ok (.iaload, 1) := by decide +kernel
theorem dL_law_989 : decode cL_law 989 = .ok (.i2l, 1) := by decide +kernel
theorem dL_law_990 : decode cL_law 990 = .ok (.ldc2_w 133, 3) := by decide +kernel
theorem dL_law_993 : decode cL_law 993 = .ok (.land, 1) := by decide +kernel
theorem dL_law_994 : decode cL_law 994 = .ok (.lor, 1) := by decide +kernel
theorem dL_law_995 : decode cL_law 995 = .ok (.invokevirtual 135, 3) := by decide +kernel
theorem dL_law_998 : decode cL_law 998 = .ok (.aload_n 2, 1) := by decide +kernel
theorem dL_law_999 : decode cL_law 999 = .ok (.aload_n 0, 1) := by decide +kernel
theorem dL_law_1000 : decode cL_law 1000 = .ok (.iload_n 3, 1) := by decide +kernel
theorem dL_law_1001 : decode cL_law 1001 = .ok (.iconst 1, 1) := by decide +kernel
theorem dL_law_1002 : decode cL_law 1002 = .ok (.iadd, 1) := by decide +kernel
theorem dL_law_1003 : decode cL_law 1003 = .ok (.iaload, 1) := by decide +kernel
theorem dL_law_1004 : decode cL_law 1004 = .ok (.aload_n 0, 1) := by decide +kernel
theorem dL_law_1005 : decode cL_law 1005 = .ok (.iload_n 3, 1) := by decide +kernel
theorem dL_law_1006 : decode cL_law 1006 = .ok (.iconst 2, 1) := by decide +kernel
theorem dL_law_1007 : decode cL_law 1007 = .ok (.iadd, 1) := by decide +kernel
theorem dL_law_1008 : decode cL_law 1008 = .ok (.iaload, 1) := by decide +kernel
theorem dL_law_1009 : decode cL_law 1009 = .ok (.aload_n 0, 1) := by decide +kernel
theorem dL_law_1010 : decode cL_law 1010 = .ok (.iload_n 3, 1) := by decide +kernel
theorem dL_law_1011 : decode cL_law 1011 = .ok (.iconst 3, 1) := by decide +kernel
theorem dL_law_1012 : decode cL_law 1012 = .ok (.iadd, 1) := by decide +kernel
theorem dL_law_1013 : decode cL_law 1013 = .ok (.iaload, 1) := by decide +kernel
theorem dL_law_1014 : decode cL_law 1014 = .ok (.i2l, 1) := by decide +kernel
theorem dL_law_1015 : decode cL_law 1015 = .ok (.bipush 32, 2) := by decide +kernel
theorem dL_law_1017 : decode cL_law 1017 = .ok (.lshl, 1) := by decide +kernel
theorem dL_law_1018 : decode cL_law 1018 = .ok (.aload_n 0, 1) := by decide +kernel
theorem dL_law_1019 : decode cL_law 1019 = .ok (.iload_n 3, 1) := by decide +kernel
theorem dL_law_1020 : decode cL_law 1020 = .ok (.iconst 4, 1) := by decide +kernel
theorem dL_law_1021 : decode cL_law 1021 = .ok (.iadd, 1) := by decide +kernel
theorem dL_law_1022 : decode cL_law 1022 = .ok (.iaload, 1) := by decide +kernel
theorem dL_law_1023 : decode cL_law 1023 = .ok (.i2l, 1) := by decide +kernel
theorem dL_law_1024 : decode cL_law 1024 = .ok (.ldc2_w 133, 3) := by decide +kernel
theorem dL_law_1027 : decode cL_law 1027 = .ok (.land, 1) := by decide +kernel
theorem dL_law_1028 : decode cL_law 1028 = .ok (.lor, 1) := by decide +kernel
theorem dL_law_1029 : decode cL_law 1029 = .ok (.invokevirtual 139, 3) := by decide +kernel
theorem dL_law_1032 : decode cL_law 1032 = .ok (.if_icmp .eq 102, 3) := by decide +kernel
theorem dL_law_1035 : decode cL_law 1035 = .ok (.iconst 0, 1) := by decide +kernel
theorem dL_law_1036 : decode cL_law 1036 = .ok (.ireturn, 1) := by decide +kernel
theorem dL_law_1037 : decode cL_law 1037 = .ok (.aload_n 1, 1) := by decide +kernel
theorem dL_law_1038 : decode cL_law 1038 = .ok (.aload_n 0, 1) := by decide +kernel
theorem dL_law_1039 : decode cL_law 1039 = .ok (.iload_n 3, 1) := by decide +kernel
theorem dL_law_1040 : decode cL_law 1040 = .ok (.iconst 1, 1) := by decide +kernel
theorem dL_law_1041 : decode cL_law 1041 = .ok (.iadd, 1) := by decide +kernel
theorem dL_law_1042 : decode cL_law 1042 = .ok (.iaload, 1) := by decide +kernel
theorem dL_law_1043 : decode cL_law 1043 = .ok (.aload_n 0, 1) := by decide +kernel
theorem dL_law_1044 : decode cL_law 1044 = .ok (.iload_n 3, 1) := by decide +kernel
theorem dL_law_1045 : decode cL_law 1045 = .ok (.iconst 2, 1) := by decide +kernel
theorem dL_law_1046 : decode cL_law 1046 = .ok (.iadd, 1) := by decide +kernel
theorem dL_law_1047 : decode cL_law 1047 = .ok (.iaload, 1) := by decide +kernel
theorem dL_law_1048 : decode cL_law 1048 = .ok (.invokevirtual 140, 3) := by decide +kernel
theorem dL_law_1051 : decode cL_law 1051 = .ok (.aload_n 2, 1) := by decide +kernel
theorem dL_law_1052 : decode cL_law 1052 = .ok (.aload_n 0, 1) := by decide +kernel
theorem dL_law_1053 : decode cL_law 1053 = .ok (.iload_n 3, 1) := by decide +kernel
theorem dL_law_1054 : decode cL_law 1054 = .ok (.iconst 1, 1) := by decide +kernel
theorem dL_law_1055 : decode cL_law 1055 = .ok (.iadd, 1) := by decide +kernel
theorem dL_law_1056 : decode cL_law 1056 = .ok (.iaload, 1) := by decide +kernel
theorem dL_law_1057 : decode cL_law 1057 = .ok (.aload_n 0, 1) := by decide +kernel
theorem dL_law_1058 : decode cL_law 1058 = .ok (.iload_n 3, 1) := by decide +kernel
theorem dL_law_1059 : decode cL_law 1059 = .ok (.iconst 2, 1) := by decide +kernel
theorem dL_law_1060 : decode cL_law 1060 = .ok (.iadd, 1) := by decide +kernel
theorem dL_law_1061 : decode cL_law 1061 = .ok (.iaload, 1) := by decide +kernel
theorem dL_law_1062 : decode cL_law 1062 = .ok (.invokevirtual 143, 3) := by decide +kernel
theorem dL_law_1065 : decode cL_law 1065 = .ok (.lcmp, 1) := by decide +kernel
theorem dL_law_1066 : decode cL_law 1066 = .ok (.ifCond .eq 68, 3) := by decide +kernel
theorem dL_law_1069 : decode cL_law 1069 = .ok (.iconst 0, 1) := by decide +kernel
theorem dL_law_1070 : decode cL_law 1070 = .ok (.ireturn, 1) := by decide +kernel
theorem dL_law_1071 : decode cL_law 1071 = .ok (.aload_n 1, 1) := by decide +kernel
theorem dL_law_1072 : decode cL_law 1072 = .ok (.aload_n 0, 1) := by decide +kernel
theorem dL_law_1073 : decode cL_law 1073 = .ok (.iload_n 3, 1) := by decide +kernel
theorem dL_law_1074 : decode cL_law 1074 = .ok (.iconst 1, 1) := by decide +kernel
theorem dL_law_1075 : decode cL_law 1075 = .ok (.iadd, 1) := by decide +kernel
theorem dL_law_1076 : decode cL_law 1076 = .ok (.iaload, 1) := by decide +kernel
theorem dL_law_1077 : decode cL_law 1077 = .ok (.aload_n 0, 1) := by decide +kernel
theorem dL_law_1078 : decode cL_law 1078 = .ok (.iload_n 3, 1) := by decide +kernel
theorem dL_law_1079 : decode cL_law 1079 = .ok (.iconst 2, 1) := by decide +kernel
theorem dL_law_1080 : decode cL_law 1080 = .ok (.iadd, 1) := by decide +kernel
theorem dL_law_1081 : decode cL_law 1081 = .ok (.iaload, 1) := by decide +kernel
theorem dL_law_1082 : decode cL_law 1082 = .ok (.aload_n 0, 1) := by decide +kernel
theorem dL_law_1083 : decode cL_law 1083 = .ok (.iload_n 3, 1) := by decide +kernel
theorem dL_law_1084 : decode cL_law 1084 = .ok (.iconst 3, 1) := by decide +kernel
theorem dL_law_1085 : decode cL_law 1085 = .ok (.iadd, 1) := by decide +kernel
theorem dL_law_1086 : decode cL_law 1086 = .ok (.iaload, 1) := by decide +kernel
theorem dL_law_1087 : decode cL_law 1087 = .ok (.aload_n 0, 1) := by decide +kernel
theorem dL_law_1088 : decode cL_law 1088 = .ok (.iload_n 3, 1) := by decide +kernel
theorem dL_law_1089 : decode cL_law 1089 = .ok (.iconst 4, 1) := by decide +kernel
theorem dL_law_1090 : decode cL_law 1090 = .ok (.iadd, 1) := by decide +kernel
theorem dL_law_1091 : decode cL_law 1091 = .ok (.iaload, 1) := by decide +kernel
theorem dL_law_1092 : decode cL_law 1092 = .ok (.aload_n 0, 1) := by decide +kernel
theorem dL_law_1093 : decode cL_law 1093 = .ok (.iload_n 3, 1) := by decide +kernel
theorem dL_law_1094 : decode cL_law 1094 = .ok (.iconst 5, 1) := by decide +kernel
theorem dL_law_1095 : decode cL_law 1095 = .ok (.iadd, 1) := by decide +kernel
theorem dL_law_1096 : decode cL_law 1096 = .ok (.iaload, 1) := by decide +kernel
theorem dL_law_1097 : decode cL_law 1097 = .ok (.invokevirtual 144, 3) := by decide +kernel
theorem dL_law_1100 : decode cL_law 1100 = .ok (.aload_n 2, 1) := by decide +kernel
theorem dL_law_1101 : decode cL_law 1101 = .ok (.aload_n 0, 1) := by decide +kernel
theorem dL_law_1102 : decode cL_law 1102 = .ok (.iload_n 3, 1) := by decide +kernel
theorem dL_law_1103 : decode cL_law 1103 = .ok (.iconst 1, 1) := by decide +kernel
theorem dL_law_1104 : decode cL_law 1104 = .ok (.iadd, 1) := by decide +kernel
theorem dL_law_1105 : decode cL_law 1105 = .ok (.iaload, 1) := by decide +kernel
theorem dL_law_1106 : decode cL_law 1106 = .ok (.aload_n 0, 1) := by decide +kernel
theorem dL_law_1107 : decode cL_law 1107 = .ok (.iload_n 3, 1) := by decide +kernel
theorem dL_law_1108 : decode cL_law 1108 = .ok (.iconst 2, 1) := by decide +kernel
theorem dL_law_1109 : decode cL_law 1109 = .ok (.iadd, 1) := by decide +kernel
theorem dL_law_1110 : decode cL_law 1110 = .ok (.iaload, 1) := by decide +kernel
theorem dL_law_1111 : decode cL_law 1111 = .ok (.aload_n 0, 1) := by decide +kernel
theorem dL_law_1112 : decode cL_law 1112 = .ok (.iload_n 3, 1) := by decide +kernel
theorem dL_law_1113 : decode cL_law 1113 = .ok (.iconst 3, 1) := by decide +kernel
theorem dL_law_1114 : decode cL_law 1114 = .ok (.iadd, 1) := by decide +kernel
theorem dL_law_1115 : decode cL_law 1115 = .ok (.iaload, 1) := by decide +kernel
theorem dL_law_1116 : decode cL_law 1116 = .ok (.aload_n 0, 1) := by decide +kernel
