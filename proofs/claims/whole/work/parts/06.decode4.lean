theorem dX10_of_82 : decode cX10_of 82 = .ok (.aload_n 0, 1) := by decide +kernel
theorem dX10_of_83 : decode cX10_of 83 = .ok (.getfield 29, 3) := by decide +kernel
theorem dX10_of_86 : decode cX10_of 86 = .ok (.iload_n 1, 1) := by decide +kernel
theorem dX10_of_87 : decode cX10_of 87 = .ok (.iaload, 1) := by decide +kernel
theorem dX10_of_88 : decode cX10_of 88 = .ok (.ireturn, 1) := by decide +kernel
theorem dX10_of_89 : decode cX10_of 89 = .ok (.aload_n 0, 1) := by decide +kernel
theorem dX10_of_90 : decode cX10_of 90 = .ok (.getfield 32, 3) := by decide +kernel
theorem dX10_of_93 : decode cX10_of 93 = .ok (.iload_n 1, 1) := by decide +kernel
theorem dX10_of_94 : decode cX10_of 94 = .ok (.iaload, 1) := by decide +kernel
theorem dX10_of_95 : decode cX10_of 95 = .ok (.ireturn, 1) := by decide +kernel
theorem dX10_of_96 : decode cX10_of 96 = .ok (.aload_n 0, 1) := by decide +kernel
theorem dX10_of_97 : decode cX10_of 97 = .ok (.getfield 35, 3) := by decide +kernel
theorem dX10_of_100 : decode cX10_of 100 = .ok (.iload_n 1, 1) := by decide +kernel
theorem dX10_of_101 : decode cX10_of 101 = .ok (.iaload, 1) := by decide +kernel
theorem dX10_of_102 : decode cX10_of 102 = .ok (.ireturn, 1) := by decide +kernel
theorem dX10_of_103 : decode cX10_of 103 = .ok (.aload_n 0, 1) := by decide +kernel
theorem dX10_of_104 : decode cX10_of 104 = .ok (.getfield 117, 3) := by decide +kernel
theorem dX10_of_107 : decode cX10_of 107 = .ok (.ireturn, 1) := by decide +kernel
theorem dX10_of_108 : decode cX10_of 108 = .ok (.aload_n 0, 1) := by decide +kernel
theorem dX10_of_109 : decode cX10_of 109 = .ok (.getfield 120, 3) := by decide +kernel
theorem dX10_of_112 : decode cX10_of 112 = .ok (.ireturn, 1) := by decide +kernel
theorem dX10_of_113 : decode cX10_of 113 = .ok (.aload_n 0, 1) := by decide +kernel
theorem dX10_of_114 : decode cX10_of 114 = .ok (.iload_n 1, 1) := by decide +kernel
theorem dX10_of_115 : decode cX10_of 115 = .ok (.invokevirtual 341, 3) := by decide +kernel
theorem dX10_of_118 : decode cX10_of 118 = .ok (.ireturn, 1) := by decide +kernel
theorem dX10_of_119 : decode cX10_of 119 = .ok (.iconst (-1), 1) := by decide +kernel
theorem dX10_of_120 : decode cX10_of 120 = .ok (.ireturn, 1) := by decide +kernel
theorem dX10_caught_0 : decode cX10_caught 0 = .ok (.iconst 0, 1) := by decide +kernel
theorem dX10_caught_1 : decode cX10_caught 1 = .ok (.istore_n 1, 1) := by decide +kernel
theorem dX10_caught_2 : decode cX10_caught 2 = .ok (.iload_n 1, 1) := by decide +kernel
theorem dX10_caught_3 : decode cX10_caught 3 = .ok (.aload_n 0, 1) := by decide +kernel
theorem dX10_caught_4 : decode cX10_caught 4 = .ok (.getfield 7, 3) := by decide +kernel
theorem dX10_caught_7 : decode cX10_caught 7 = .ok (.if_icmp .ge 24, 3) := by decide +kernel
theorem dX10_caught_10 : decode cX10_caught 10 = .ok (.aload_n 0, 1) := by decide +kernel
theorem dX10_caught_11 : decode cX10_caught 11 = .ok (.getfield 101, 3) := by decide +kernel
theorem dX10_caught_14 : decode cX10_caught 14 = .ok (.iload_n 1, 1) := by decide +kernel
theorem dX10_caught_15 : decode cX10_caught 15 = .ok (.iaload, 1) := by decide +kernel
theorem dX10_caught_16 : decode cX10_caught 16 = .ok (.aload_n 0, 1) := by decide +kernel
theorem dX10_caught_17 : decode cX10_caught 17 = .ok (.getfield 92, 3) := by decide +kernel
theorem dX10_caught_20 : decode cX10_caught 20 = .ok (.if_icmp .ne 5, 3) := by decide +kernel
theorem dX10_caught_23 : decode cX10_caught 23 = .ok (.iload_n 1, 1) := by decide +kernel
theorem dX10_caught_24 : decode cX10_caught 24 = .ok (.ireturn, 1) := by decide +kernel
theorem dX10_caught_25 : decode cX10_caught 25 = .ok (.iinc 1 1, 3) := by decide +kernel
theorem dX10_caught_28 : decode cX10_caught 28 = .ok (.goto (-26), 3) := by decide +kernel
theorem dX10_caught_31 : decode cX10_caught 31 = .ok (.iconst (-1), 1) := by decide +kernel
theorem dX10_caught_32 : decode cX10_caught 32 = .ok (.ireturn, 1) := by decide +kernel
theorem dX10_goTenth_0 : decode cX10_goTenth 0 = .ok (.iconst 0, 1) := by decide +kernel
theorem dX10_goTenth_1 : decode cX10_goTenth 1 = .ok (.istore_n 1, 1) := by decide +kernel
theorem dX10_goTenth_2 : decode cX10_goTenth 2 = .ok (.iload_n 1, 1) := by decide +kernel
theorem dX10_goTenth_3 : decode cX10_goTenth 3 = .ok (.aload_n 0, 1) := by decide +kernel
theorem dX10_goTenth_4 : decode cX10_goTenth 4 = .ok (.getfield 7, 3) := by decide +kernel
theorem dX10_goTenth_7 : decode cX10_goTenth 7 = .ok (.if_icmp .ge 38, 3) := by decide +kernel
theorem dX10_goTenth_10 : decode cX10_goTenth 10 = .ok (.aload_n 0, 1) := by decide +kernel
theorem dX10_goTenth_11 : decode cX10_goTenth 11 = .ok (.iload_n 1, 1) := by decide +kernel
theorem dX10_goTenth_12 : decode cX10_goTenth 12 = .ok (.invokevirtual 341, 3) := by decide +kernel
theorem dX10_goTenth_15 : decode cX10_goTenth 15 = .ok (.istore_n 2, 1) := by decide +kernel
theorem dX10_goTenth_16 : decode cX10_goTenth 16 = .ok (.aload_n 0, 1) := by decide +kernel
theorem dX10_goTenth_17 : decode cX10_goTenth 17 = .ok (.getfield 101, 3) := by decide +kernel
theorem dX10_goTenth_20 : decode cX10_goTenth 20 = .ok (.iload_n 1, 1) := by decide +kernel
theorem dX10_goTenth_21 : decode cX10_goTenth 21 = .ok (.iload_n 2, 1) := by decide +kernel
theorem dX10_goTenth_22 : decode cX10_goTenth 22 = .ok (.ifCond .ne 12, 3) := by decide +kernel
theorem dX10_goTenth_25 : decode cX10_goTenth 25 = .ok (.aload_n 0, 1) := by decide +kernel
theorem dX10_goTenth_26 : decode cX10_goTenth 26 = .ok (.getfield 101, 3) := by decide +kernel
theorem dX10_goTenth_29 : decode cX10_goTenth 29 = .ok (.iload_n 1, 1) := by decide +kernel
theorem dX10_goTenth_30 : decode cX10_goTenth 30 = .ok (.iaload, 1) := by decide +kernel
theorem dX10_goTenth_31 : decode cX10_goTenth 31 = .ok (.goto 7, 3) := by decide +kernel
theorem dX10_goTenth_34 : decode cX10_goTenth 34 = .ok (.aload_n 0, 1) := by decide +kernel
theorem dX10_goTenth_35 : decode cX10_goTenth 35 = .ok (.getfield 123, 3) := by decide +kernel
theorem dX10_goTenth_38 : decode cX10_goTenth 38 = .ok (.iastore, 1) := by decide +kernel
theorem dX10_goTenth_39 : decode cX10_goTenth 39 = .ok (.iinc 1 1, 3) := by decide +kernel
theorem dX10_goTenth_42 : decode cX10_goTenth 42 = .ok (.goto (-40), 3) := by decide +kernel
theorem dX10_goTenth_45 : decode cX10_goTenth 45 = .ok (.aload_n 0, 1) := by decide +kernel
theorem dX10_goTenth_46 : decode cX10_goTenth 46 = .ok (.dup, 1) := by decide +kernel
theorem dX10_goTenth_47 : decode cX10_goTenth 47 = .ok (.getfield 95, 3) := by decide +kernel
theorem dX10_goTenth_50 : decode cX10_goTenth 50 = .ok (.iconst 1, 1) := by decide +kernel
theorem dX10_goTenth_51 : decode cX10_goTenth 51 = .ok (.iadd, 1) := by decide +kernel
theorem dX10_goTenth_52 : decode cX10_goTenth 52 = .ok (.putfield 95, 3) := by decide +kernel
theorem dX10_goTenth_55 : decode cX10_goTenth 55 = .ok (.return_, 1) := by decide +kernel
theorem dX10_go_0 : decode cX10_go 0 = .ok (.aload_n 0, 1) := by decide +kernel
theorem dX10_go_1 : decode cX10_go 1 = .ok (.iload_n 1, 1) := by decide +kernel
theorem dX10_go_2 : decode cX10_go 2 = .ok (.iconst 1, 1) := by decide +kernel
theorem dX10_go_3 : decode cX10_go 3 = .ok (.bipush 60, 2) := by decide +kernel
theorem dX10_go_5 : decode cX10_go 5 = .ok (.invokevirtual 231, 3) := by decide +kernel
theorem dX10_go_8 : decode cX10_go 8 = .ok (.ifCond .ne 6, 3) := by decide +kernel
theorem dX10_go_11 : decode cX10_go 11 = .ok (.bipush (-2), 2) := by decide +kernel
theorem dX10_go_13 : decode cX10_go 13 = .ok (.ireturn, 1) := by decide +kernel
theorem dX10_go_14 : decode cX10_go 14 = .ok (.aload_n 0, 1) := by decide +kernel
theorem dX10_go_15 : decode cX10_go 15 = .ok (.invokevirtual 338, 3) := by decide +kernel
theorem dX10_go_18 : decode cX10_go 18 = .ok (.iconst (-1), 1) := by decide +kernel
theorem dX10_go_19 : decode cX10_go 19 = .ok (.istore_n 2, 1) := by decide +kernel
theorem dX10_go_20 : decode cX10_go 20 = .ok (.iconst 0, 1) := by decide +kernel
theorem dX10_go_21 : decode cX10_go 21 = .ok (.istore_n 3, 1) := by decide +kernel
theorem dX10_go_22 : decode cX10_go 22 = .ok (.iload_n 3, 1) := by decide +kernel
theorem dX10_go_23 : decode cX10_go 23 = .ok (.iload_n 1, 1) := by decide +kernel
theorem dX10_go_24 : decode cX10_go 24 = .ok (.if_icmp .ge 22, 3) := by decide +kernel
theorem dX10_go_27 : decode cX10_go 27 = .ok (.iload_n 2, 1) := by decide +kernel
theorem dX10_go_28 : decode cX10_go 28 = .ok (.ifCond .ge 18, 3) := by decide +kernel
theorem dX10_go_31 : decode cX10_go 31 = .ok (.aload_n 0, 1) := by decide +kernel
theorem dX10_go_32 : decode cX10_go 32 = .ok (.invokevirtual 344, 3) := by decide +kernel
theorem dX10_go_35 : decode cX10_go 35 = .ok (.aload_n 0, 1) := by decide +kernel
theorem dX10_go_36 : decode cX10_go 36 = .ok (.invokevirtual 347, 3) := by decide +kernel
theorem dX10_go_39 : decode cX10_go 39 = .ok (.istore_n 2, 1) := by decide +kernel
theorem dX10_go_40 : decode cX10_go 40 = .ok (.iinc 3 1, 3) := by decide +kernel
theorem dX10_go_43 : decode cX10_go 43 = .ok (.goto (-21), 3) := by decide +kernel
theorem dX10_go_46 : decode cX10_go 46 = .ok (.iconst 0, 1) := by decide +kernel
theorem dX10_go_47 : decode cX10_go 47 = .ok (.istore_n 3, 1) := by decide +kernel
theorem dX10_go_48 : decode cX10_go 48 = .ok (.iload_n 3, 1) := by decide +kernel
theorem dX10_go_49 : decode cX10_go 49 = .ok (.bipush 6, 2) := by decide +kernel
theorem dX10_go_51 : decode cX10_go 51 = .ok (.if_icmp .ge 21, 3) := by decide +kernel
theorem dX10_go_54 : decode cX10_go 54 = .ok (.aload_n 0, 1) := by decide +kernel
theorem dX10_go_55 : decode cX10_go 55 = .ok (.getfield 29, 3) := by decide +kernel
theorem dX10_go_58 : decode cX10_go 58 = .ok (.iload_n 3, 1) := by decide +kernel
theorem dX10_go_59 : decode cX10_go 59 = .ok (.aload_n 0, 1) := by decide +kernel
theorem dX10_go_60 : decode cX10_go 60 = .ok (.getfield 101, 3) := by decide +kernel
theorem dX10_go_63 : decode cX10_go 63 = .ok (.iload_n 3, 1) := by decide +kernel
theorem dX10_go_64 : decode cX10_go 64 = .ok (.iaload, 1) := by decide +kernel
theorem dX10_go_65 : decode cX10_go 65 = .ok (.iastore, 1) := by decide +kernel
theorem dX10_go_66 : decode cX10_go 66 = .ok (.iinc 3 1, 3) := by decide +kernel
theorem dX10_go_69 : decode cX10_go 69 = .ok (.goto (-21), 3) := by decide +kernel
theorem dX10_go_72 : decode cX10_go 72 = .ok (.aload_n 0, 1) := by decide +kernel
theorem dX10_go_73 : decode cX10_go 73 = .ok (.aload_n 0, 1) := by decide +kernel
theorem dX10_go_74 : decode cX10_go 74 = .ok (.getfield 95, 3) := by decide +kernel
theorem dX10_go_77 : decode cX10_go 77 = .ok (.putfield 16, 3) := by decide +kernel
theorem dX10_go_80 : decode cX10_go 80 = .ok (.iload_n 2, 1) := by decide +kernel
theorem dX10_go_81 : decode cX10_go 81 = .ok (.ifCond .ge 8, 3) := by decide +kernel
theorem dX10_go_84 : decode cX10_go 84 = .ok (.bipush (-5), 2) := by decide +kernel
theorem dX10_go_86 : decode cX10_go 86 = .ok (.goto 4, 3) := by decide +kernel
theorem dX10_go_89 : decode cX10_go 89 = .ok (.iload_n 2, 1) := by decide +kernel
theorem dX10_go_90 : decode cX10_go 90 = .ok (.ireturn, 1) := by decide +kernel
theorem dX10_safe_0 : decode cX10_safe 0 = .ok (.aload_n 0, 1) := by decide +kernel
theorem dX10_safe_1 : decode cX10_safe 1 = .ok (.invokevirtual 338, 3) := by decide +kernel
theorem dX10_safe_4 : decode cX10_safe 4 = .ok (.lconst 0, 1) := by decide +kernel
theorem dX10_safe_5 : decode cX10_safe 5 = .ok (.lstore_n 1, 1) := by decide +kernel
theorem dX10_safe_6 : decode cX10_safe 6 = .ok (.iconst 0, 1) := by decide +kernel
theorem dX10_safe_7 : decode cX10_safe 7 = .ok (.istore_n 3, 1) := by decide +kernel
theorem dX10_safe_8 : decode cX10_safe 8 = .ok (.iload_n 3, 1) := by decide +kernel
theorem dX10_safe_9 : decode cX10_safe 9 = .ok (.bipush 36, 2) := by decide +kernel
theorem dX10_safe_11 : decode cX10_safe 11 = .ok (.if_icmp .ge 83, 3) := by decide +kernel
theorem dX10_safe_14 : decode cX10_safe 14 = .ok (.aload_n 0, 1) := by decide +kernel
theorem dX10_safe_15 : decode cX10_safe 15 = .ok (.iload_n 3, 1) := by decide +kernel
theorem dX10_safe_16 : decode cX10_safe 16 = .ok (.invokevirtual 307, 3) := by decide +kernel
theorem dX10_safe_19 : decode cX10_safe 19 = .ok (.ifCond .eq 6, 3) := by decide +kernel
theorem dX10_safe_22 : decode cX10_safe 22 = .ok (.goto 66, 3) := by decide +kernel
theorem dX10_safe_25 : decode cX10_safe 25 = .ok (.aload_n 0, 1) := by decide +kernel
theorem dX10_safe_26 : decode cX10_safe 26 = .ok (.iload_n 3, 1) := by decide +kernel
theorem dX10_safe_27 : decode cX10_safe 27 = .ok (.putfield 92, 3) := by decide +kernel
theorem dX10_safe_30 : decode cX10_safe 30 = .ok (.iconst 1, 1) := by decide +kernel
theorem dX10_safe_31 : decode cX10_safe 31 = .ok (.istore 4, 2) := by decide +kernel
theorem dX10_safe_33 : decode cX10_safe 33 = .ok (.iconst 0, 1) := by decide +kernel
theorem dX10_safe_34 : decode cX10_safe 34 = .ok (.istore 5, 2) := by decide +kernel
theorem dX10_safe_36 : decode cX10_safe 36 = .ok (.iload 5, 2) := by decide +kernel
theorem dX10_safe_38 : decode cX10_safe 38 = .ok (.aload_n 0, 1) := by decide +kernel
theorem dX10_safe_39 : decode cX10_safe 39 = .ok (.getfield 7, 3) := by decide +kernel
theorem dX10_safe_42 : decode cX10_safe 42 = .ok (.if_icmp .ge 31, 3) := by decide +kernel
theorem dX10_safe_45 : decode cX10_safe 45 = .ok (.iload 4, 2) := by decide +kernel
theorem dX10_safe_47 : decode cX10_safe 47 = .ok (.ifCond .eq 17, 3) := by decide +kernel
theorem dX10_safe_50 : decode cX10_safe 50 = .ok (.aload_n 0, 1) := by decide +kernel
theorem dX10_safe_51 : decode cX10_safe 51 = .ok (.iload 5, 2) := by decide +kernel
theorem dX10_safe_53 : decode cX10_safe 53 = .ok (.invokevirtual 341, 3) := by decide +kernel
theorem dX10_safe_56 : decode cX10_safe 56 = .ok (.iconst 2, 1) := by decide +kernel
theorem dX10_safe_57 : decode cX10_safe 57 = .ok (.if_icmp .eq 7, 3) := by decide +kernel
theorem dX10_safe_60 : decode cX10_safe 60 = .ok (.iconst 1, 1) := by decide +kernel
theorem dX10_safe_61 : decode cX10_safe 61 = .ok (.goto 4, 3) := by decide +kernel
theorem dX10_safe_64 : decode cX10_safe 64 = .ok (.iconst 0, 1) := by decide +kernel
theorem dX10_safe_65 : decode cX10_safe 65 = .ok (.istore 4, 2) := by decide +kernel
theorem dX10_safe_67 : decode cX10_safe 67 = .ok (.iinc 5 1, 3) := by decide +kernel
theorem dX10_safe_70 : decode cX10_safe 70 = .ok (.goto (-34), 3) := by decide +kernel
theorem dX10_safe_73 : decode cX10_safe 73 = .ok (.lload_n 1, 1) := by decide +kernel
theorem dX10_safe_74 : decode cX10_safe 74 = .ok (.iload 4, 2) := by decide +kernel
theorem dX10_safe_76 : decode cX10_safe 76 = .ok (.ifCond .eq 9, 3) := by decide +kernel
theorem dX10_safe_79 : decode cX10_safe 79 = .ok (.lconst 1, 1) := by decide +kernel
theorem dX10_safe_80 : decode cX10_safe 80 = .ok (.iload_n 3, 1) := by decide +kernel
theorem dX10_safe_81 : decode cX10_safe 81 = .ok (.lshl, 1) := by decide +kernel
theorem dX10_safe_82 : decode cX10_safe 82 = .ok (.goto 4, 3) := by decide +kernel
theorem dX10_safe_85 : decode cX10_safe 85 = .ok (.lconst 0, 1) := by decide +kernel
theorem dX10_safe_86 : decode cX10_safe 86 = .ok (.lor, 1) := by decide +kernel
theorem dX10_safe_87 : decode cX10_safe 87 = .ok (.lstore_n 1, 1) := by decide +kernel
theorem dX10_safe_88 : decode cX10_safe 88 = .ok (.iinc 3 1, 3) := by decide +kernel
theorem dX10_safe_91 : decode cX10_safe 91 = .ok (.goto (-83), 3) := by decide +kernel
theorem dX10_safe_94 : decode cX10_safe 94 = .ok (.lload_n 1, 1) := by decide +kernel
theorem dX10_safe_95 : decode cX10_safe 95 = .ok (.lreturn, 1) := by decide +kernel
theorem dX10_from_0 : decode cX10_from 0 = .ok (.aload_n 0, 1) := by decide +kernel
theorem dX10_from_1 : decode cX10_from 1 = .ok (.iload_n 1, 1) := by decide +kernel
theorem dX10_from_2 : decode cX10_from 2 = .ok (.invokevirtual 246, 3) := by decide +kernel
theorem dX10_from_5 : decode cX10_from 5 = .ok (.ifCond .ne 5, 3) := by decide +kernel
theorem dX10_from_8 : decode cX10_from 8 = .ok (.iconst (-1), 1) := by decide +kernel
theorem dX10_from_9 : decode cX10_from 9 = .ok (.ireturn, 1) := by decide +kernel
theorem dX10_from_10 : decode cX10_from 10 = .ok (.aload_n 0, 1) := by decide +kernel
theorem dX10_from_11 : decode cX10_from 11 = .ok (.invokevirtual 338, 3) := by decide +kernel
theorem dX10_from_14 : decode cX10_from 14 = .ok (.iconst 0, 1) := by decide +kernel
theorem dX10_from_15 : decode cX10_from 15 = .ok (.istore_n 2, 1) := by decide +kernel
theorem dX10_from_16 : decode cX10_from 16 = .ok (.iload_n 2, 1) := by decide +kernel
theorem dX10_from_17 : decode cX10_from 17 = .ok (.bipush 36, 2) := by decide +kernel
theorem dX10_from_19 : decode cX10_from 19 = .ok (.if_icmp .ge 93, 3) := by decide +kernel
theorem dX10_from_22 : decode cX10_from 22 = .ok (.aload_n 0, 1) := by decide +kernel
theorem dX10_from_23 : decode cX10_from 23 = .ok (.iload_n 2, 1) := by decide +kernel
theorem dX10_from_24 : decode cX10_from 24 = .ok (.invokevirtual 307, 3) := by decide +kernel
theorem dX10_from_27 : decode cX10_from 27 = .ok (.ifCond .eq 6, 3) := by decide +kernel
theorem dX10_from_30 : decode cX10_from 30 = .ok (.goto 76, 3) := by decide +kernel
theorem dX10_from_33 : decode cX10_from 33 = .ok (.aload_n 0, 1) := by decide +kernel
theorem dX10_from_34 : decode cX10_from 34 = .ok (.iload_n 2, 1) := by decide +kernel
theorem dX10_from_35 : decode cX10_from 35 = .ok (.putfield 92, 3) := by decide +kernel
theorem dX10_from_38 : decode cX10_from 38 = .ok (.iconst 1, 1) := by decide +kernel
theorem dX10_from_39 : decode cX10_from 39 = .ok (.istore_n 3, 1) := by decide +kernel
theorem dX10_from_40 : decode cX10_from 40 = .ok (.iconst 0, 1) := by decide +kernel
theorem dX10_from_41 : decode cX10_from 41 = .ok (.istore 4, 2) := by decide +kernel
theorem dX10_from_43 : decode cX10_from 43 = .ok (.iload 4, 2) := by decide +kernel
theorem dX10_from_45 : decode cX10_from 45 = .ok (.aload_n 0, 1) := by decide +kernel
theorem dX10_from_46 : decode cX10_from 46 = .ok (.getfield 7, 3) := by decide +kernel
theorem dX10_from_49 : decode cX10_from 49 = .ok (.if_icmp .ge 51, 3) := by decide +kernel
theorem dX10_from_52 : decode cX10_from 52 = .ok (.aload_n 0, 1) := by decide +kernel
theorem dX10_from_53 : decode cX10_from 53 = .ok (.iload 4, 2) := by decide +kernel
theorem dX10_from_55 : decode cX10_from 55 = .ok (.invokevirtual 341, 3) := by decide +kernel
theorem dX10_from_58 : decode cX10_from 58 = .ok (.ifCond .le 7, 3) := by decide +kernel
theorem dX10_from_61 : decode cX10_from 61 = .ok (.iconst 1, 1) := by decide +kernel
theorem dX10_from_62 : decode cX10_from 62 = .ok (.goto 4, 3) := by decide +kernel
theorem dX10_from_65 : decode cX10_from 65 = .ok (.iconst 0, 1) := by decide +kernel
theorem dX10_from_66 : decode cX10_from 66 = .ok (.istore 5, 2) := by decide +kernel
theorem dX10_from_68 : decode cX10_from 68 = .ok (.iload_n 3, 1) := by decide +kernel
theorem dX10_from_69 : decode cX10_from 69 = .ok (.ifCond .eq 23, 3) := by decide +kernel
theorem dX10_from_72 : decode cX10_from 72 = .ok (.iload 5, 2) := by decide +kernel
theorem dX10_from_74 : decode cX10_from 74 = .ok (.iload 4, 2) := by decide +kernel
theorem dX10_from_76 : decode cX10_from 76 = .ok (.iload_n 1, 1) := by decide +kernel
theorem dX10_from_77 : decode cX10_from 77 = .ok (.if_icmp .ne 7, 3) := by decide +kernel
theorem dX10_from_80 : decode cX10_from 80 = .ok (.iconst 1, 1) := by decide +kernel
theorem dX10_from_81 : decode cX10_from 81 = .ok (.goto 4, 3) := by decide +kernel
theorem dX10_from_84 : decode cX10_from 84 = .ok (.iconst 0, 1) := by decide +kernel
theorem dX10_from_85 : decode cX10_from 85 = .ok (.if_icmp .ne 7, 3) := by decide +kernel
theorem dX10_from_88 : decode cX10_from 88 = .ok (.iconst 1, 1) := by decide +kernel
theorem dX10_from_89 : decode cX10_from 89 = .ok (.goto 4, 3) := by decide +kernel
theorem dX10_from_92 : decode cX10_from 92 = .ok (.iconst 0, 1) := by decide +kernel
theorem dX10_from_93 : decode cX10_from 93 = .ok (.istore_n 3, 1) := by decide +kernel
theorem dX10_from_94 : decode cX10_from 94 = .ok (.iinc 4 1, 3) := by decide +kernel
theorem dX10_from_97 : decode cX10_from 97 = .ok (.goto (-54), 3) := by decide +kernel
theorem dX10_from_100 : decode cX10_from 100 = .ok (.iload_n 3, 1) := by decide +kernel
theorem dX10_from_101 : decode cX10_from 101 = .ok (.ifCond .eq 5, 3) := by decide +kernel
theorem dX10_from_104 : decode cX10_from 104 = .ok (.iload_n 2, 1) := by decide +kernel
theorem dX10_from_105 : decode cX10_from 105 = .ok (.ireturn, 1) := by decide +kernel
theorem dX10_from_106 : decode cX10_from 106 = .ok (.iinc 2 1, 3) := by decide +kernel
theorem dX10_from_109 : decode cX10_from 109 = .ok (.goto (-93), 3) := by decide +kernel
theorem dX10_from_112 : decode cX10_from 112 = .ok (.bipush (-5), 2) := by decide +kernel
theorem dX10_from_114 : decode cX10_from 114 = .ok (.ireturn, 1) := by decide +kernel
theorem dX10_walk_0 : decode cX10_walk 0 = .ok (.iload_n 1, 1) := by decide +kernel
theorem dX10_walk_1 : decode cX10_walk 1 = .ok (.iconst (-1), 1) := by decide +kernel
theorem dX10_walk_2 : decode cX10_walk 2 = .ok (.if_icmp .ne 10, 3) := by decide +kernel
theorem dX10_walk_5 : decode cX10_walk 5 = .ok (.aload_n 0, 1) := by decide +kernel
theorem dX10_walk_6 : decode cX10_walk 6 = .ok (.iconst 0, 1) := by decide +kernel
theorem dX10_walk_7 : decode cX10_walk 7 = .ok (.putfield 126, 3) := by decide +kernel
theorem dX10_walk_10 : decode cX10_walk 10 = .ok (.iconst 0, 1) := by decide +kernel
theorem dX10_walk_11 : decode cX10_walk 11 = .ok (.ireturn, 1) := by decide +kernel
theorem dX10_walk_12 : decode cX10_walk 12 = .ok (.aload_n 0, 1) := by decide +kernel
theorem dX10_walk_13 : decode cX10_walk 13 = .ok (.iload_n 1, 1) := by decide +kernel
theorem dX10_walk_14 : decode cX10_walk 14 = .ok (.invokevirtual 235, 3) := by decide +kernel
theorem dX10_walk_17 : decode cX10_walk 17 = .ok (.ifCond .ne 5, 3) := by decide +kernel
theorem dX10_walk_20 : decode cX10_walk 20 = .ok (.iconst (-1), 1) := by decide +kernel
theorem dX10_walk_21 : decode cX10_walk 21 = .ok (.ireturn, 1) := by decide +kernel
theorem dX10_walk_22 : decode cX10_walk 22 = .ok (.aload_n 0, 1) := by decide +kernel
theorem dX10_walk_23 : decode cX10_walk 23 = .ok (.getfield 126, 3) := by decide +kernel
theorem dX10_walk_26 : decode cX10_walk 26 = .ok (.bipush 12, 2) := by decide +kernel
theorem dX10_walk_28 : decode cX10_walk 28 = .ok (.if_icmp .ne 6, 3) := by decide +kernel
theorem dX10_walk_31 : decode cX10_walk 31 = .ok (.bipush (-4), 2) := by decide +kernel
theorem dX10_walk_33 : decode cX10_walk 33 = .ok (.ireturn, 1) := by decide +kernel
theorem dX10_walk_34 : decode cX10_walk 34 = .ok (.aload_n 0, 1) := by decide +kernel
theorem dX10_walk_35 : decode cX10_walk 35 = .ok (.getfield 129, 3) := by decide +kernel
theorem dX10_walk_38 : decode cX10_walk 38 = .ok (.aload_n 0, 1) := by decide +kernel
theorem dX10_walk_39 : decode cX10_walk 39 = .ok (.getfield 126, 3) := by decide +kernel
theorem dX10_walk_42 : decode cX10_walk 42 = .ok (.iload_n 1, 1) := by decide +kernel
theorem dX10_walk_43 : decode cX10_walk 43 = .ok (.iastore, 1) := by decide +kernel
theorem dX10_walk_44 : decode cX10_walk 44 = .ok (.aload_n 0, 1) := by decide +kernel
theorem dX10_walk_45 : decode cX10_walk 45 = .ok (.dup, 1) := by decide +kernel
theorem dX10_walk_46 : decode cX10_walk 46 = .ok (.getfield 126, 3) := by decide +kernel
theorem dX10_walk_49 : decode cX10_walk 49 = .ok (.iconst 1, 1) := by decide +kernel
theorem dX10_walk_50 : decode cX10_walk 50 = .ok (.iadd, 1) := by decide +kernel
theorem dX10_walk_51 : decode cX10_walk 51 = .ok (.putfield 126, 3) := by decide +kernel
theorem dX10_walk_54 : decode cX10_walk 54 = .ok (.aload_n 0, 1) := by decide +kernel
theorem dX10_walk_55 : decode cX10_walk 55 = .ok (.getfield 126, 3) := by decide +kernel
theorem dX10_walk_58 : decode cX10_walk 58 = .ok (.ireturn, 1) := by decide +kernel
theorem dX10_mayGo_0 : decode cX10_mayGo 0 = .ok (.iload_n 1, 1) := by decide +kernel
theorem dX10_mayGo_1 : decode cX10_mayGo 1 = .ok (.aload_n 0, 1) := by decide +kernel
theorem dX10_mayGo_2 : decode cX10_mayGo 2 = .ok (.getfield 92, 3) := by decide +kernel
theorem dX10_mayGo_5 : decode cX10_mayGo 5 = .ok (.if_icmp .eq 24, 3) := by decide +kernel
theorem dX10_mayGo_8 : decode cX10_mayGo 8 = .ok (.aload_n 0, 1) := by decide +kernel
theorem dX10_mayGo_9 : decode cX10_mayGo 9 = .ok (.iload_n 1, 1) := by decide +kernel
theorem dX10_mayGo_10 : decode cX10_mayGo 10 = .ok (.aload_n 0, 1) := by decide +kernel
theorem dX10_mayGo_11 : decode cX10_mayGo 11 = .ok (.getfield 92, 3) := by decide +kernel
theorem dX10_mayGo_14 : decode cX10_mayGo 14 = .ok (.invokevirtual 328, 3) := by decide +kernel
theorem dX10_mayGo_17 : decode cX10_mayGo 17 = .ok (.iconst 1, 1) := by decide +kernel
theorem dX10_mayGo_18 : decode cX10_mayGo 18 = .ok (.if_icmp .ne 15, 3) := by decide +kernel
theorem dX10_mayGo_21 : decode cX10_mayGo 21 = .ok (.aload_n 0, 1) := by decide +kernel
theorem dX10_mayGo_22 : decode cX10_mayGo 22 = .ok (.iload_n 1, 1) := by decide +kernel
theorem dX10_mayGo_23 : decode cX10_mayGo 23 = .ok (.invokevirtual 307, 3) := by decide +kernel
theorem dX10_mayGo_26 : decode cX10_mayGo 26 = .ok (.ifCond .ne 7, 3) := by decide +kernel
theorem dX10_mayGo_29 : decode cX10_mayGo 29 = .ok (.iconst 1, 1) := by decide +kernel
theorem dX10_mayGo_30 : decode cX10_mayGo 30 = .ok (.goto 4, 3) := by decide +kernel
theorem dX10_mayGo_33 : decode cX10_mayGo 33 = .ok (.iconst 0, 1) := by decide +kernel
theorem dX10_mayGo_34 : decode cX10_mayGo 34 = .ok (.ireturn, 1) := by decide +kernel
theorem dX10_gone_0 : decode cX10_gone 0 = .ok (.aload_n 0, 1) := by decide +kernel
theorem dX10_gone_1 : decode cX10_gone 1 = .ok (.iload_n 1, 1) := by decide +kernel
theorem dX10_gone_2 : decode cX10_gone 2 = .ok (.iconst 0, 1) := by decide +kernel
theorem dX10_gone_3 : decode cX10_gone 3 = .ok (.aload_n 0, 1) := by decide +kernel
theorem dX10_gone_4 : decode cX10_gone 4 = .ok (.getfield 7, 3) := by decide +kernel
theorem dX10_gone_7 : decode cX10_gone 7 = .ok (.iconst 1, 1) := by decide +kernel
theorem dX10_gone_8 : decode cX10_gone 8 = .ok (.isub, 1) := by decide +kernel
theorem dX10_gone_9 : decode cX10_gone 9 = .ok (.invokevirtual 231, 3) := by decide +kernel
theorem dX10_gone_12 : decode cX10_gone 12 = .ok (.ifCond .ne 17, 3) := by decide +kernel
theorem dX10_gone_15 : decode cX10_gone 15 = .ok (.aload_n 0, 1) := by decide +kernel
theorem dX10_gone_16 : decode cX10_gone 16 = .ok (.iload_n 1, 1) := by decide +kernel
theorem dX10_gone_17 : decode cX10_gone 17 = .ok (.bipush 10, 2) := by decide +kernel
theorem dX10_gone_19 : decode cX10_gone 19 = .ok (.bipush 12, 2) := by decide +kernel
theorem dX10_gone_21 : decode cX10_gone 21 = .ok (.invokevirtual 231, 3) := by decide +kernel
theorem dX10_gone_24 : decode cX10_gone 24 = .ok (.ifCond .ne 5, 3) := by decide +kernel
theorem dX10_gone_27 : decode cX10_gone 27 = .ok (.iconst (-1), 1) := by decide +kernel
theorem dX10_gone_28 : decode cX10_gone 28 = .ok (.ireturn, 1) := by decide +kernel
theorem dX10_gone_29 : decode cX10_gone 29 = .ok (.aload_n 0, 1) := by decide +kernel
theorem dX10_gone_30 : decode cX10_gone 30 = .ok (.invokevirtual 338, 3) := by decide +kernel
theorem dX10_gone_33 : decode cX10_gone 33 = .ok (.bipush (-5), 2) := by decide +kernel
theorem dX10_gone_35 : decode cX10_gone 35 = .ok (.istore_n 2, 1) := by decide +kernel
theorem dX10_gone_36 : decode cX10_gone 36 = .ok (.bipush (-5), 2) := by decide +kernel
theorem dX10_gone_38 : decode cX10_gone 38 = .ok (.istore_n 3, 1) := by decide +kernel
theorem dX10_gone_39 : decode cX10_gone 39 = .ok (.iconst 0, 1) := by decide +kernel
theorem dX10_gone_40 : decode cX10_gone 40 = .ok (.istore 4, 2) := by decide +kernel
theorem dX10_gone_42 : decode cX10_gone 42 = .ok (.iload 4, 2) := by decide +kernel
theorem dX10_gone_44 : decode cX10_gone 44 = .ok (.aload_n 0, 1) := by decide +kernel
theorem dX10_gone_45 : decode cX10_gone 45 = .ok (.getfield 126, 3) := by decide +kernel
theorem dX10_gone_48 : decode cX10_gone 48 = .ok (.if_icmp .ge 83, 3) := by decide +kernel
theorem dX10_gone_51 : decode cX10_gone 51 = .ok (.aload_n 0, 1) := by decide +kernel
theorem dX10_gone_52 : decode cX10_gone 52 = .ok (.aload_n 0, 1) := by decide +kernel
theorem dX10_gone_53 : decode cX10_gone 53 = .ok (.getfield 129, 3) := by decide +kernel
theorem dX10_gone_56 : decode cX10_gone 56 = .ok (.iload 4, 2) := by decide +kernel
theorem dX10_gone_58 : decode cX10_gone 58 = .ok (.iaload, 1) := by decide +kernel
theorem dX10_gone_59 : decode cX10_gone 59 = .ok (.invokevirtual 350, 3) := by decide +kernel
theorem dX10_gone_62 : decode cX10_gone 62 = .ok (.istore 5, 2) := by decide +kernel
theorem dX10_gone_64 : decode cX10_gone 64 = .ok (.iload 5, 2) := by decide +kernel
theorem dX10_gone_66 : decode cX10_gone 66 = .ok (.ifCond .ne 12, 3) := by decide +kernel
theorem dX10_gone_69 : decode cX10_gone 69 = .ok (.iload_n 3, 1) := by decide +kernel
theorem dX10_gone_70 : decode cX10_gone 70 = .ok (.ifCond .ge 8, 3) := by decide +kernel
theorem dX10_gone_73 : decode cX10_gone 73 = .ok (.iload 4, 2) := by decide +kernel
theorem dX10_gone_75 : decode cX10_gone 75 = .ok (.goto 4, 3) := by decide +kernel
theorem dX10_gone_78 : decode cX10_gone 78 = .ok (.iload_n 3, 1) := by decide +kernel
theorem dX10_gone_79 : decode cX10_gone 79 = .ok (.istore_n 3, 1) := by decide +kernel
theorem dX10_gone_80 : decode cX10_gone 80 = .ok (.aload_n 0, 1) := by decide +kernel
theorem dX10_gone_81 : decode cX10_gone 81 = .ok (.iload 5, 2) := by decide +kernel
theorem dX10_gone_83 : decode cX10_gone 83 = .ok (.ifCond .eq 13, 3) := by decide +kernel
theorem dX10_gone_86 : decode cX10_gone 86 = .ok (.aload_n 0, 1) := by decide +kernel
theorem dX10_gone_87 : decode cX10_gone 87 = .ok (.getfield 129, 3) := by decide +kernel
theorem dX10_gone_90 : decode cX10_gone 90 = .ok (.iload 4, 2) := by decide +kernel
theorem dX10_gone_92 : decode cX10_gone 92 = .ok (.iaload, 1) := by decide +kernel
theorem dX10_gone_93 : decode cX10_gone 93 = .ok (.goto 7, 3) := by decide +kernel
theorem dX10_gone_96 : decode cX10_gone 96 = .ok (.aload_n 0, 1) := by decide +kernel
theorem dX10_gone_97 : decode cX10_gone 97 = .ok (.getfield 92, 3) := by decide +kernel
theorem dX10_gone_100 : decode cX10_gone 100 = .ok (.putfield 92, 3) := by decide +kernel
theorem dX10_gone_103 : decode cX10_gone 103 = .ok (.aload_n 0, 1) := by decide +kernel
theorem dX10_gone_104 : decode cX10_gone 104 = .ok (.invokevirtual 344, 3) := by decide +kernel
theorem dX10_gone_107 : decode cX10_gone 107 = .ok (.aload_n 0, 1) := by decide +kernel
theorem dX10_gone_108 : decode cX10_gone 108 = .ok (.invokevirtual 347, 3) := by decide +kernel
theorem dX10_gone_111 : decode cX10_gone 111 = .ok (.ifCond .lt 12, 3) := by decide +kernel
theorem dX10_gone_114 : decode cX10_gone 114 = .ok (.iload_n 2, 1) := by decide +kernel
theorem dX10_gone_115 : decode cX10_gone 115 = .ok (.ifCond .ge 8, 3) := by decide +kernel
theorem dX10_gone_118 : decode cX10_gone 118 = .ok (.iload 4, 2) := by decide +kernel
theorem dX10_gone_120 : decode cX10_gone 120 = .ok (.goto 4, 3) := by decide +kernel
theorem dX10_gone_123 : decode cX10_gone 123 = .ok (.iload_n 2, 1) := by decide +kernel
theorem dX10_gone_124 : decode cX10_gone 124 = .ok (.istore_n 2, 1) := by decide +kernel
theorem dX10_gone_125 : decode cX10_gone 125 = .ok (.iinc 4 1, 3) := by decide +kernel
theorem dX10_gone_128 : decode cX10_gone 128 = .ok (.goto (-86), 3) := by decide +kernel
theorem dX10_gone_131 : decode cX10_gone 131 = .ok (.iload_n 1, 1) := by decide +kernel
theorem dX10_gone_132 : decode cX10_gone 132 = .ok (.bipush 6, 2) := by decide +kernel
theorem dX10_gone_134 : decode cX10_gone 134 = .ok (.if_icmp .ge 12, 3) := by decide +kernel
theorem dX10_gone_137 : decode cX10_gone 137 = .ok (.aload_n 0, 1) := by decide +kernel
theorem dX10_gone_138 : decode cX10_gone 138 = .ok (.getfield 101, 3) := by decide +kernel
theorem dX10_gone_141 : decode cX10_gone 141 = .ok (.iload_n 1, 1) := by decide +kernel
theorem dX10_gone_142 : decode cX10_gone 142 = .ok (.iaload, 1) := by decide +kernel
theorem dX10_gone_143 : decode cX10_gone 143 = .ok (.goto 27, 3) := by decide +kernel
theorem dX10_gone_146 : decode cX10_gone 146 = .ok (.iload_n 1, 1) := by decide +kernel
theorem dX10_gone_147 : decode cX10_gone 147 = .ok (.bipush 10, 2) := by decide +kernel
theorem dX10_gone_149 : decode cX10_gone 149 = .ok (.if_icmp .ne 7, 3) := by decide +kernel
theorem dX10_gone_152 : decode cX10_gone 152 = .ok (.iload_n 2, 1) := by decide +kernel
theorem dX10_gone_153 : decode cX10_gone 153 = .ok (.goto 17, 3) := by decide +kernel
theorem dX10_gone_156 : decode cX10_gone 156 = .ok (.iload_n 1, 1) := by decide +kernel
theorem dX10_gone_157 : decode cX10_gone 157 = .ok (.bipush 11, 2) := by decide +kernel
theorem dX10_gone_159 : decode cX10_gone 159 = .ok (.if_icmp .ne 7, 3) := by decide +kernel
theorem dX10_gone_162 : decode cX10_gone 162 = .ok (.iload_n 3, 1) := by decide +kernel
theorem dX10_gone_163 : decode cX10_gone 163 = .ok (.goto 7, 3) := by decide +kernel
theorem dX10_gone_166 : decode cX10_gone 166 = .ok (.aload_n 0, 1) := by decide +kernel
theorem dX10_gone_167 : decode cX10_gone 167 = .ok (.getfield 92, 3) := by decide +kernel
theorem dX10_gone_170 : decode cX10_gone 170 = .ok (.ireturn, 1) := by decide +kernel
theorem dX10_keep_0 : decode cX10_keep 0 = .ok (.iconst 0, 1) := by decide +kernel
theorem dX10_keep_1 : decode cX10_keep 1 = .ok (.istore_n 2, 1) := by decide +kernel
theorem dX10_keep_2 : decode cX10_keep 2 = .ok (.iload_n 2, 1) := by decide +kernel
theorem dX10_keep_3 : decode cX10_keep 3 = .ok (.bipush 6, 2) := by decide +kernel
theorem dX10_keep_5 : decode cX10_keep 5 = .ok (.if_icmp .ge 26, 3) := by decide +kernel
theorem dX10_keep_8 : decode cX10_keep 8 = .ok (.aload_n 0, 1) := by decide +kernel
theorem dX10_keep_9 : decode cX10_keep 9 = .ok (.getfield 132, 3) := by decide +kernel
theorem dX10_keep_12 : decode cX10_keep 12 = .ok (.bipush 6, 2) := by decide +kernel
theorem dX10_keep_14 : decode cX10_keep 14 = .ok (.iload_n 1, 1) := by decide +kernel
theorem dX10_keep_15 : decode cX10_keep 15 = .ok (.imul, 1) := by decide +kernel
theorem dX10_keep_16 : decode cX10_keep 16 = .ok (.iload_n 2, 1) := by decide +kernel
theorem dX10_keep_17 : decode cX10_keep 17 = .ok (.iadd, 1) := by decide +kernel
theorem dX10_keep_18 : decode cX10_keep 18 = .ok (.aload_n 0, 1) := by decide +kernel
theorem dX10_keep_19 : decode cX10_keep 19 = .ok (.getfield 101, 3) := by decide +kernel
theorem dX10_keep_22 : decode cX10_keep 22 = .ok (.iload_n 2, 1) := by decide +kernel
theorem dX10_keep_23 : decode cX10_keep 23 = .ok (.iaload, 1) := by decide +kernel
theorem dX10_keep_24 : decode cX10_keep 24 = .ok (.iastore, 1) := by decide +kernel
theorem dX10_keep_25 : decode cX10_keep 25 = .ok (.iinc 2 1, 3) := by decide +kernel
theorem dX10_keep_28 : decode cX10_keep 28 = .ok (.goto (-26), 3) := by decide +kernel
theorem dX10_keep_31 : decode cX10_keep 31 = .ok (.aload_n 0, 1) := by decide +kernel
theorem dX10_keep_32 : decode cX10_keep 32 = .ok (.getfield 135, 3) := by decide +kernel
theorem dX10_keep_35 : decode cX10_keep 35 = .ok (.iload_n 1, 1) := by decide +kernel
theorem dX10_keep_36 : decode cX10_keep 36 = .ok (.aload_n 0, 1) := by decide +kernel
theorem dX10_keep_37 : decode cX10_keep 37 = .ok (.getfield 92, 3) := by decide +kernel
theorem dX10_keep_40 : decode cX10_keep 40 = .ok (.iastore, 1) := by decide +kernel
theorem dX10_keep_41 : decode cX10_keep 41 = .ok (.aload_n 0, 1) := by decide +kernel
theorem dX10_keep_42 : decode cX10_keep 42 = .ok (.getfield 138, 3) := by decide +kernel
theorem dX10_keep_45 : decode cX10_keep 45 = .ok (.iload_n 1, 1) := by decide +kernel
theorem dX10_keep_46 : decode cX10_keep 46 = .ok (.iconst 0, 1) := by decide +kernel
theorem dX10_keep_47 : decode cX10_keep 47 = .ok (.iastore, 1) := by decide +kernel
theorem dX10_keep_48 : decode cX10_keep 48 = .ok (.return_, 1) := by decide +kernel
theorem dX10_layBack_0 : decode cX10_layBack 0 = .ok (.iconst 0, 1) := by decide +kernel
theorem dX10_layBack_1 : decode cX10_layBack 1 = .ok (.istore_n 2, 1) := by decide +kernel
theorem dX10_layBack_2 : decode cX10_layBack 2 = .ok (.iload_n 2, 1) := by decide +kernel
theorem dX10_layBack_3 : decode cX10_layBack 3 = .ok (.bipush 6, 2) := by decide +kernel
theorem dX10_layBack_5 : decode cX10_layBack 5 = .ok (.if_icmp .ge 26, 3) := by decide +kernel
theorem dX10_layBack_8 : decode cX10_layBack 8 = .ok (.aload_n 0, 1) := by decide +kernel
theorem dX10_layBack_9 : decode cX10_layBack 9 = .ok (.getfield 101, 3) := by decide +kernel
theorem dX10_layBack_12 : decode cX10_layBack 12 = .ok (.iload_n 2, 1) := by decide +kernel
theorem dX10_layBack_13 : decode cX10_layBack 13 = .ok (.aload_n 0, 1) := by decide +kernel
theorem dX10_layBack_14 : decode cX10_layBack 14 = .ok (.getfield 132, 3) := by decide +kernel
theorem dX10_layBack_17 : decode cX10_layBack 17 = .ok (.bipush 6, 2) := by decide +kernel
theorem dX10_layBack_19 : decode cX10_layBack 19 = .ok (.iload_n 1, 1) := by decide +kernel
theorem dX10_layBack_20 : decode cX10_layBack 20 = .ok (.imul, 1) := by decide +kernel
theorem dX10_layBack_21 : decode cX10_layBack 21 = .ok (.iload_n 2, 1) := by decide +kernel
theorem dX10_layBack_22 : decode cX10_layBack 22 = .ok (.iadd, 1) := by decide +kernel
theorem dX10_layBack_23 : decode cX10_layBack 23 = .ok (.iaload, 1) := by decide +kernel
theorem dX10_layBack_24 : decode cX10_layBack 24 = .ok (.iastore, 1) := by decide +kernel
theorem dX10_layBack_25 : decode cX10_layBack 25 = .ok (.iinc 2 1, 3) := by decide +kernel
theorem dX10_layBack_28 : decode cX10_layBack 28 = .ok (.goto (-26), 3) := by decide +kernel
theorem dX10_layBack_31 : decode cX10_layBack 31 = .ok (.aload_n 0, 1) := by decide +kernel
theorem dX10_layBack_32 : decode cX10_layBack 32 = .ok (.aload_n 0, 1) := by decide +kernel
theorem dX10_layBack_33 : decode cX10_layBack 33 = .ok (.getfield 135, 3) := by decide +kernel
theorem dX10_layBack_36 : decode cX10_layBack 36 = .ok (.iload_n 1, 1) := by decide +kernel
theorem dX10_layBack_37 : decode cX10_layBack 37 = .ok (.iaload, 1) := by decide +kernel
theorem dX10_layBack_38 : decode cX10_layBack 38 = .ok (.putfield 92, 3) := by decide +kernel
theorem dX10_layBack_41 : decode cX10_layBack 41 = .ok (.aload_n 0, 1) := by decide +kernel
theorem dX10_layBack_42 : decode cX10_layBack 42 = .ok (.aload_n 0, 1) := by decide +kernel
theorem dX10_layBack_43 : decode cX10_layBack 43 = .ok (.getfield 16, 3) := by decide +kernel
theorem dX10_layBack_46 : decode cX10_layBack 46 = .ok (.iload_n 1, 1) := by decide +kernel
theorem dX10_layBack_47 : decode cX10_layBack 47 = .ok (.iadd, 1) := by decide +kernel
theorem dX10_layBack_48 : decode cX10_layBack 48 = .ok (.putfield 95, 3) := by decide +kernel
theorem dX10_layBack_51 : decode cX10_layBack 51 = .ok (.return_, 1) := by decide +kernel
theorem dX10_findWalk_0 : decode cX10_findWalk 0 = .ok (.aload_n 0, 1) := by decide +kernel
theorem dX10_findWalk_1 : decode cX10_findWalk 1 = .ok (.invokevirtual 338, 3) := by decide +kernel
theorem dX10_findWalk_4 : decode cX10_findWalk 4 = .ok (.aload_n 0, 1) := by decide +kernel
theorem dX10_findWalk_5 : decode cX10_findWalk 5 = .ok (.iconst 0, 1) := by decide +kernel
theorem dX10_findWalk_6 : decode cX10_findWalk 6 = .ok (.invokevirtual 353, 3) := by decide +kernel
theorem dX10_findWalk_9 : decode cX10_findWalk 9 = .ok (.iconst 0, 1) := by decide +kernel
theorem dX10_findWalk_10 : decode cX10_findWalk 10 = .ok (.istore_n 3, 1) := by decide +kernel
theorem dX10_findWalk_11 : decode cX10_findWalk 11 = .ok (.iload_n 3, 1) := by decide +kernel
theorem dX10_findWalk_12 : decode cX10_findWalk 12 = .ok (.ifCond .lt 127, 3) := by decide +kernel
theorem dX10_findWalk_15 : decode cX10_findWalk 15 = .ok (.iload_n 3, 1) := by decide +kernel
theorem dX10_findWalk_16 : decode cX10_findWalk 16 = .ok (.iload_n 2, 1) := by decide +kernel
theorem dX10_findWalk_17 : decode cX10_findWalk 17 = .ok (.if_icmp .ne 31, 3) := by decide +kernel
theorem dX10_findWalk_20 : decode cX10_findWalk 20 = .ok (.aload_n 0, 1) := by decide +kernel
theorem dX10_findWalk_21 : decode cX10_findWalk 21 = .ok (.getfield 132, 3) := by decide +kernel
theorem dX10_findWalk_24 : decode cX10_findWalk 24 = .ok (.bipush 6, 2) := by decide +kernel
theorem dX10_findWalk_26 : decode cX10_findWalk 26 = .ok (.iload_n 3, 1) := by decide +kernel
theorem dX10_findWalk_27 : decode cX10_findWalk 27 = .ok (.imul, 1) := by decide +kernel
theorem dX10_findWalk_28 : decode cX10_findWalk 28 = .ok (.iload_n 1, 1) := by decide +kernel
theorem dX10_findWalk_29 : decode cX10_findWalk 29 = .ok (.iadd, 1) := by decide +kernel
theorem dX10_findWalk_30 : decode cX10_findWalk 30 = .ok (.iaload, 1) := by decide +kernel
theorem dX10_findWalk_31 : decode cX10_findWalk 31 = .ok (.aload_n 0, 1) := by decide +kernel
theorem dX10_findWalk_32 : decode cX10_findWalk 32 = .ok (.getfield 32, 3) := by decide +kernel
theorem dX10_findWalk_35 : decode cX10_findWalk 35 = .ok (.iload_n 1, 1) := by decide +kernel
theorem dX10_findWalk_36 : decode cX10_findWalk 36 = .ok (.iaload, 1) := by decide +kernel
theorem dX10_findWalk_37 : decode cX10_findWalk 37 = .ok (.if_icmp .ne 5, 3) := by decide +kernel
theorem dX10_findWalk_40 : decode cX10_findWalk 40 = .ok (.iconst 1, 1) := by decide +kernel
theorem dX10_findWalk_41 : decode cX10_findWalk 41 = .ok (.ireturn, 1) := by decide +kernel
theorem dX10_findWalk_42 : decode cX10_findWalk 42 = .ok (.iinc 3 (-1), 3) := by decide +kernel
theorem dX10_findWalk_45 : decode cX10_findWalk 45 = .ok (.goto (-34), 3) := by decide +kernel
theorem dX10_findWalk_48 : decode cX10_findWalk 48 = .ok (.aload_n 0, 1) := by decide +kernel
theorem dX10_findWalk_49 : decode cX10_findWalk 49 = .ok (.getfield 138, 3) := by decide +kernel
theorem dX10_findWalk_52 : decode cX10_findWalk 52 = .ok (.iload_n 3, 1) := by decide +kernel
theorem dX10_findWalk_53 : decode cX10_findWalk 53 = .ok (.iaload, 1) := by decide +kernel
theorem dX10_findWalk_54 : decode cX10_findWalk 54 = .ok (.bipush 35, 2) := by decide +kernel
theorem dX10_findWalk_56 : decode cX10_findWalk 56 = .ok (.if_icmp .le 9, 3) := by decide +kernel
theorem dX10_findWalk_59 : decode cX10_findWalk 59 = .ok (.iinc 3 (-1), 3) := by decide +kernel
theorem dX10_findWalk_62 : decode cX10_findWalk 62 = .ok (.goto (-51), 3) := by decide +kernel
theorem dX10_findWalk_65 : decode cX10_findWalk 65 = .ok (.aload_n 0, 1) := by decide +kernel
theorem dX10_findWalk_66 : decode cX10_findWalk 66 = .ok (.getfield 138, 3) := by decide +kernel
theorem dX10_findWalk_69 : decode cX10_findWalk 69 = .ok (.iload_n 3, 1) := by decide +kernel
theorem dX10_findWalk_70 : decode cX10_findWalk 70 = .ok (.iaload, 1) := by decide +kernel
theorem dX10_findWalk_71 : decode cX10_findWalk 71 = .ok (.istore 4, 2) := by decide +kernel
theorem dX10_findWalk_73 : decode cX10_findWalk 73 = .ok (.aload_n 0, 1) := by decide +kernel
theorem dX10_findWalk_74 : decode cX10_findWalk 74 = .ok (.getfield 138, 3) := by decide +kernel
theorem dX10_findWalk_77 : decode cX10_findWalk 77 = .ok (.iload_n 3, 1) := by decide +kernel
theorem dX10_findWalk_78 : decode cX10_findWalk 78 = .ok (.dup2, 1) := by decide +kernel
theorem dX10_findWalk_79 : decode cX10_findWalk 79 = .ok (.iaload, 1) := by decide +kernel
theorem dX10_findWalk_80 : decode cX10_findWalk 80 = .ok (.iconst 1, 1) := by decide +kernel
theorem dX10_findWalk_81 : decode cX10_findWalk 81 = .ok (.iadd, 1) := by decide +kernel
theorem dX10_findWalk_82 : decode cX10_findWalk 82 = .ok (.iastore, 1) := by decide +kernel
theorem dX10_findWalk_83 : decode cX10_findWalk 83 = .ok (.aload_n 0, 1) := by decide +kernel
theorem dX10_findWalk_84 : decode cX10_findWalk 84 = .ok (.iload_n 3, 1) := by decide +kernel
theorem dX10_findWalk_85 : decode cX10_findWalk 85 = .ok (.invokevirtual 356, 3) := by decide +kernel
theorem dX10_findWalk_88 : decode cX10_findWalk 88 = .ok (.aload_n 0, 1) := by decide +kernel
theorem dX10_findWalk_89 : decode cX10_findWalk 89 = .ok (.iload 4, 2) := by decide +kernel
theorem dX10_findWalk_91 : decode cX10_findWalk 91 = .ok (.invokevirtual 350, 3) := by decide +kernel
theorem dX10_findWalk_94 : decode cX10_findWalk 94 = .ok (.ifCond .ne 6, 3) := by decide +kernel
theorem dX10_findWalk_97 : decode cX10_findWalk 97 = .ok (.goto (-86), 3) := by decide +kernel
theorem dX10_findWalk_100 : decode cX10_findWalk 100 = .ok (.aload_n 0, 1) := by decide +kernel
theorem dX10_findWalk_101 : decode cX10_findWalk 101 = .ok (.iload 4, 2) := by decide +kernel
theorem dX10_findWalk_103 : decode cX10_findWalk 103 = .ok (.putfield 92, 3) := by decide +kernel
theorem dX10_findWalk_106 : decode cX10_findWalk 106 = .ok (.aload_n 0, 1) := by decide +kernel
theorem dX10_findWalk_107 : decode cX10_findWalk 107 = .ok (.invokevirtual 344, 3) := by decide +kernel
theorem dX10_findWalk_110 : decode cX10_findWalk 110 = .ok (.aload_n 0, 1) := by decide +kernel
theorem dX10_findWalk_111 : decode cX10_findWalk 111 = .ok (.invokevirtual 347, 3) := by decide +kernel
theorem dX10_findWalk_114 : decode cX10_findWalk 114 = .ok (.ifCond .lt 6, 3) := by decide +kernel
theorem dX10_findWalk_117 : decode cX10_findWalk 117 = .ok (.goto (-106), 3) := by decide +kernel
theorem dX10_findWalk_120 : decode cX10_findWalk 120 = .ok (.aload_n 0, 1) := by decide +kernel
theorem dX10_findWalk_121 : decode cX10_findWalk 121 = .ok (.getfield 141, 3) := by decide +kernel
theorem dX10_findWalk_124 : decode cX10_findWalk 124 = .ok (.iload_n 3, 1) := by decide +kernel
theorem dX10_findWalk_125 : decode cX10_findWalk 125 = .ok (.iload 4, 2) := by decide +kernel
theorem dX10_findWalk_127 : decode cX10_findWalk 127 = .ok (.iastore, 1) := by decide +kernel
theorem dX10_findWalk_128 : decode cX10_findWalk 128 = .ok (.iinc 3 1, 3) := by decide +kernel
theorem dX10_findWalk_131 : decode cX10_findWalk 131 = .ok (.aload_n 0, 1) := by decide +kernel
theorem dX10_findWalk_132 : decode cX10_findWalk 132 = .ok (.iload_n 3, 1) := by decide +kernel
theorem dX10_findWalk_133 : decode cX10_findWalk 133 = .ok (.invokevirtual 353, 3) := by decide +kernel
theorem dX10_findWalk_136 : decode cX10_findWalk 136 = .ok (.goto (-125), 3) := by decide +kernel
theorem dX10_findWalk_139 : decode cX10_findWalk 139 = .ok (.iconst 0, 1) := by decide +kernel
theorem dX10_findWalk_140 : decode cX10_findWalk 140 = .ok (.ireturn, 1) := by decide +kernel
theorem dX10_shortest_0 : decode cX10_shortest 0 = .ok (.aload_n 0, 1) := by decide +kernel
theorem dX10_shortest_1 : decode cX10_shortest 1 = .ok (.iload_n 1, 1) := by decide +kernel
theorem dX10_shortest_2 : decode cX10_shortest 2 = .ok (.invokevirtual 246, 3) := by decide +kernel
theorem dX10_shortest_5 : decode cX10_shortest 5 = .ok (.ifCond .eq 13, 3) := by decide +kernel
theorem dX10_shortest_8 : decode cX10_shortest 8 = .ok (.aload_n 0, 1) := by decide +kernel
theorem dX10_shortest_9 : decode cX10_shortest 9 = .ok (.iload_n 2, 1) := by decide +kernel
theorem dX10_shortest_10 : decode cX10_shortest 10 = .ok (.iconst (-1), 1) := by decide +kernel
theorem dX10_shortest_11 : decode cX10_shortest 11 = .ok (.iconst 4, 1) := by decide +kernel
theorem dX10_shortest_12 : decode cX10_shortest 12 = .ok (.invokevirtual 231, 3) := by decide +kernel
theorem dX10_shortest_15 : decode cX10_shortest 15 = .ok (.ifCond .ne 5, 3) := by decide +kernel
theorem dX10_shortest_18 : decode cX10_shortest 18 = .ok (.iconst (-1), 1) := by decide +kernel
theorem dX10_shortest_19 : decode cX10_shortest 19 = .ok (.ireturn, 1) := by decide +kernel
theorem dX10_shortest_20 : decode cX10_shortest 20 = .ok (.iconst 0, 1) := by decide +kernel
theorem dX10_shortest_21 : decode cX10_shortest 21 = .ok (.istore_n 3, 1) := by decide +kernel
theorem dX10_shortest_22 : decode cX10_shortest 22 = .ok (.iload_n 3, 1) := by decide +kernel
theorem dX10_shortest_23 : decode cX10_shortest 23 = .ok (.bipush 6, 2) := by decide +kernel
theorem dX10_shortest_25 : decode cX10_shortest 25 = .ok (.if_icmp .ge 43, 3) := by decide +kernel
theorem dX10_shortest_28 : decode cX10_shortest 28 = .ok (.aload_n 0, 1) := by decide +kernel
theorem dX10_shortest_29 : decode cX10_shortest 29 = .ok (.iload_n 1, 1) := by decide +kernel
theorem dX10_shortest_30 : decode cX10_shortest 30 = .ok (.iload_n 3, 1) := by decide +kernel
theorem dX10_shortest_31 : decode cX10_shortest 31 = .ok (.invokevirtual 359, 3) := by decide +kernel
theorem dX10_shortest_34 : decode cX10_shortest 34 = .ok (.ifCond .eq 28, 3) := by decide +kernel
theorem dX10_shortest_37 : decode cX10_shortest 37 = .ok (.iload_n 2, 1) := by decide +kernel
theorem dX10_shortest_38 : decode cX10_shortest 38 = .ok (.ifCond .ge 7, 3) := by decide +kernel
theorem dX10_shortest_41 : decode cX10_shortest 41 = .ok (.iload_n 3, 1) := by decide +kernel
theorem dX10_shortest_42 : decode cX10_shortest 42 = .ok (.goto 19, 3) := by decide +kernel
theorem dX10_shortest_45 : decode cX10_shortest 45 = .ok (.iload_n 2, 1) := by decide +kernel
theorem dX10_shortest_46 : decode cX10_shortest 46 = .ok (.iload_n 3, 1) := by decide +kernel
theorem dX10_shortest_47 : decode cX10_shortest 47 = .ok (.if_icmp .ge 12, 3) := by decide +kernel
theorem dX10_shortest_50 : decode cX10_shortest 50 = .ok (.aload_n 0, 1) := by decide +kernel
theorem dX10_shortest_51 : decode cX10_shortest 51 = .ok (.getfield 141, 3) := by decide +kernel
theorem dX10_shortest_54 : decode cX10_shortest 54 = .ok (.iload_n 2, 1) := by decide +kernel
theorem dX10_shortest_55 : decode cX10_shortest 55 = .ok (.iaload, 1) := by decide +kernel
theorem dX10_shortest_56 : decode cX10_shortest 56 = .ok (.goto 5, 3) := by decide +kernel
theorem dX10_shortest_59 : decode cX10_shortest 59 = .ok (.bipush (-5), 2) := by decide +kernel
theorem dX10_shortest_61 : decode cX10_shortest 61 = .ok (.ireturn, 1) := by decide +kernel
theorem dX10_shortest_62 : decode cX10_shortest 62 = .ok (.iinc 3 1, 3) := by decide +kernel
theorem dX10_shortest_65 : decode cX10_shortest 65 = .ok (.goto (-43), 3) := by decide +kernel
theorem dX10_shortest_68 : decode cX10_shortest 68 = .ok (.bipush (-5), 2) := by decide +kernel
theorem dX10_shortest_70 : decode cX10_shortest 70 = .ok (.ireturn, 1) := by decide +kernel
theorem dX10_fits_0 : decode cX10_fits 0 = .ok (.iconst 0, 1) := by decide +kernel
theorem dX10_fits_1 : decode cX10_fits 1 = .ok (.istore_n 2, 1) := by decide +kernel
theorem dX10_fits_2 : decode cX10_fits 2 = .ok (.iload_n 2, 1) := by decide +kernel
theorem dX10_fits_3 : decode cX10_fits 3 = .ok (.iload_n 1, 1) := by decide +kernel
theorem dX10_fits_4 : decode cX10_fits 4 = .ok (.if_icmp .ge 70, 3) := by decide +kernel
theorem dX10_fits_7 : decode cX10_fits 7 = .ok (.iload_n 2, 1) := by decide +kernel
theorem dX10_fits_8 : decode cX10_fits 8 = .ok (.iconst 1, 1) := by decide +kernel
theorem dX10_fits_9 : decode cX10_fits 9 = .ok (.iadd, 1) := by decide +kernel
theorem dX10_fits_10 : decode cX10_fits 10 = .ok (.istore_n 3, 1) := by decide +kernel
theorem dX10_fits_11 : decode cX10_fits 11 = .ok (.iload_n 3, 1) := by decide +kernel
theorem dX10_fits_12 : decode cX10_fits 12 = .ok (.iload_n 1, 1) := by decide +kernel
theorem dX10_fits_13 : decode cX10_fits 13 = .ok (.if_icmp .ge 55, 3) := by decide +kernel
theorem dX10_fits_16 : decode cX10_fits 16 = .ok (.aload_n 0, 1) := by decide +kernel
theorem dX10_fits_17 : decode cX10_fits 17 = .ok (.getfield 38, 3) := by decide +kernel
theorem dX10_fits_20 : decode cX10_fits 20 = .ok (.iload_n 2, 1) := by decide +kernel
theorem dX10_fits_21 : decode cX10_fits 21 = .ok (.iaload, 1) := by decide +kernel
theorem dX10_fits_22 : decode cX10_fits 22 = .ok (.iload_n 3, 1) := by decide +kernel
theorem dX10_fits_23 : decode cX10_fits 23 = .ok (.ishr, 1) := by decide +kernel
theorem dX10_fits_24 : decode cX10_fits 24 = .ok (.iconst 1, 1) := by decide +kernel
theorem dX10_fits_25 : decode cX10_fits 25 = .ok (.iand, 1) := by decide +kernel
theorem dX10_fits_26 : decode cX10_fits 26 = .ok (.iconst 1, 1) := by decide +kernel
theorem dX10_fits_27 : decode cX10_fits 27 = .ok (.if_icmp .ne 35, 3) := by decide +kernel
theorem dX10_fits_30 : decode cX10_fits 30 = .ok (.aload_n 0, 1) := by decide +kernel
theorem dX10_fits_31 : decode cX10_fits 31 = .ok (.aload_n 0, 1) := by decide +kernel
theorem dX10_fits_32 : decode cX10_fits 32 = .ok (.getfield 32, 3) := by decide +kernel
theorem dX10_fits_35 : decode cX10_fits 35 = .ok (.aload_n 0, 1) := by decide +kernel
theorem dX10_fits_36 : decode cX10_fits 36 = .ok (.getfield 144, 3) := by decide +kernel
theorem dX10_fits_39 : decode cX10_fits 39 = .ok (.iload_n 2, 1) := by decide +kernel
theorem dX10_fits_40 : decode cX10_fits 40 = .ok (.iaload, 1) := by decide +kernel
theorem dX10_fits_41 : decode cX10_fits 41 = .ok (.iaload, 1) := by decide +kernel
theorem dX10_fits_42 : decode cX10_fits 42 = .ok (.aload_n 0, 1) := by decide +kernel
theorem dX10_fits_43 : decode cX10_fits 43 = .ok (.getfield 32, 3) := by decide +kernel
theorem dX10_fits_46 : decode cX10_fits 46 = .ok (.aload_n 0, 1) := by decide +kernel
theorem dX10_fits_47 : decode cX10_fits 47 = .ok (.getfield 144, 3) := by decide +kernel
theorem dX10_fits_50 : decode cX10_fits 50 = .ok (.iload_n 3, 1) := by decide +kernel
theorem dX10_fits_51 : decode cX10_fits 51 = .ok (.iaload, 1) := by decide +kernel
theorem dX10_fits_52 : decode cX10_fits 52 = .ok (.iaload, 1) := by decide +kernel
theorem dX10_fits_53 : decode cX10_fits 53 = .ok (.invokevirtual 328, 3) := by decide +kernel
theorem dX10_fits_56 : decode cX10_fits 56 = .ok (.iconst 1, 1) := by decide +kernel
theorem dX10_fits_57 : decode cX10_fits 57 = .ok (.if_icmp .ne 5, 3) := by decide +kernel
theorem dX10_fits_60 : decode cX10_fits 60 = .ok (.iconst 0, 1) := by decide +kernel
theorem dX10_fits_61 : decode cX10_fits 61 = .ok (.ireturn, 1) := by decide +kernel
theorem dX10_fits_62 : decode cX10_fits 62 = .ok (.iinc 3 1, 3) := by decide +kernel
theorem dX10_fits_65 : decode cX10_fits 65 = .ok (.goto (-54), 3) := by decide +kernel
theorem dX10_fits_68 : decode cX10_fits 68 = .ok (.iinc 2 1, 3) := by decide +kernel
theorem dX10_fits_71 : decode cX10_fits 71 = .ok (.goto (-69), 3) := by decide +kernel
theorem dX10_fits_74 : decode cX10_fits 74 = .ok (.iconst 1, 1) := by decide +kernel
theorem dX10_fits_75 : decode cX10_fits 75 = .ok (.ireturn, 1) := by decide +kernel
theorem dX10_isAhead_0 : decode cX10_isAhead 0 = .ok (.iconst 0, 1) := by decide +kernel
theorem dX10_isAhead_1 : decode cX10_isAhead 1 = .ok (.istore_n 2, 1) := by decide +kernel
theorem dX10_isAhead_2 : decode cX10_isAhead 2 = .ok (.iload_n 2, 1) := by decide +kernel
theorem dX10_isAhead_3 : decode cX10_isAhead 3 = .ok (.iload_n 1, 1) := by decide +kernel
theorem dX10_isAhead_4 : decode cX10_isAhead 4 = .ok (.if_icmp .ge 65, 3) := by decide +kernel
theorem dX10_isAhead_7 : decode cX10_isAhead 7 = .ok (.aload_n 0, 1) := by decide +kernel
theorem dX10_isAhead_8 : decode cX10_isAhead 8 = .ok (.getfield 32, 3) := by decide +kernel
theorem dX10_isAhead_11 : decode cX10_isAhead 11 = .ok (.aload_n 0, 1) := by decide +kernel
theorem dX10_isAhead_12 : decode cX10_isAhead 12 = .ok (.getfield 144, 3) := by decide +kernel
theorem dX10_isAhead_15 : decode cX10_isAhead 15 = .ok (.iload_n 2, 1) := by decide +kernel
theorem dX10_isAhead_16 : decode cX10_isAhead 16 = .ok (.iaload, 1) := by decide +kernel
theorem dX10_isAhead_17 : decode cX10_isAhead 17 = .ok (.iaload, 1) := by decide +kernel
theorem dX10_isAhead_18 : decode cX10_isAhead 18 = .ok (.aload_n 0, 1) := by decide +kernel
theorem dX10_isAhead_19 : decode cX10_isAhead 19 = .ok (.getfield 32, 3) := by decide +kernel
theorem dX10_isAhead_22 : decode cX10_isAhead 22 = .ok (.aload_n 0, 1) := by decide +kernel
theorem dX10_isAhead_23 : decode cX10_isAhead 23 = .ok (.getfield 147, 3) := by decide +kernel
theorem dX10_isAhead_26 : decode cX10_isAhead 26 = .ok (.iload_n 2, 1) := by decide +kernel
theorem dX10_isAhead_27 : decode cX10_isAhead 27 = .ok (.iaload, 1) := by decide +kernel
theorem dX10_isAhead_28 : decode cX10_isAhead 28 = .ok (.iaload, 1) := by decide +kernel
theorem dX10_isAhead_29 : decode cX10_isAhead 29 = .ok (.if_icmp .eq 34, 3) := by decide +kernel
theorem dX10_isAhead_32 : decode cX10_isAhead 32 = .ok (.aload_n 0, 1) := by decide +kernel
theorem dX10_isAhead_33 : decode cX10_isAhead 33 = .ok (.getfield 32, 3) := by decide +kernel
theorem dX10_isAhead_36 : decode cX10_isAhead 36 = .ok (.aload_n 0, 1) := by decide +kernel
theorem dX10_isAhead_37 : decode cX10_isAhead 37 = .ok (.getfield 144, 3) := by decide +kernel
theorem dX10_isAhead_40 : decode cX10_isAhead 40 = .ok (.iload_n 2, 1) := by decide +kernel
theorem dX10_isAhead_41 : decode cX10_isAhead 41 = .ok (.iaload, 1) := by decide +kernel
theorem dX10_isAhead_42 : decode cX10_isAhead 42 = .ok (.iaload, 1) := by decide +kernel
theorem dX10_isAhead_43 : decode cX10_isAhead 43 = .ok (.aload_n 0, 1) := by decide +kernel
theorem dX10_isAhead_44 : decode cX10_isAhead 44 = .ok (.getfield 32, 3) := by decide +kernel
theorem dX10_isAhead_47 : decode cX10_isAhead 47 = .ok (.aload_n 0, 1) := by decide +kernel
theorem dX10_isAhead_48 : decode cX10_isAhead 48 = .ok (.getfield 147, 3) := by decide +kernel
theorem dX10_isAhead_51 : decode cX10_isAhead 51 = .ok (.iload_n 2, 1) := by decide +kernel
theorem dX10_isAhead_52 : decode cX10_isAhead 52 = .ok (.iaload, 1) := by decide +kernel
theorem dX10_isAhead_53 : decode cX10_isAhead 53 = .ok (.iaload, 1) := by decide +kernel
theorem dX10_isAhead_54 : decode cX10_isAhead 54 = .ok (.if_icmp .ge 7, 3) := by decide +kernel
theorem dX10_isAhead_57 : decode cX10_isAhead 57 = .ok (.iconst 1, 1) := by decide +kernel
theorem dX10_isAhead_58 : decode cX10_isAhead 58 = .ok (.goto 4, 3) := by decide +kernel
theorem dX10_isAhead_61 : decode cX10_isAhead 61 = .ok (.iconst 0, 1) := by decide +kernel
theorem dX10_isAhead_62 : decode cX10_isAhead 62 = .ok (.ireturn, 1) := by decide +kernel
theorem dX10_isAhead_63 : decode cX10_isAhead 63 = .ok (.iinc 2 1, 3) := by decide +kernel
theorem dX10_isAhead_66 : decode cX10_isAhead 66 = .ok (.goto (-64), 3) := by decide +kernel
theorem dX10_isAhead_69 : decode cX10_isAhead 69 = .ok (.iconst 0, 1) := by decide +kernel
theorem dX10_isAhead_70 : decode cX10_isAhead 70 = .ok (.ireturn, 1) := by decide +kernel
theorem dX10_seats_0 : decode cX10_seats 0 = .ok (.iload_n 1, 1) := by decide +kernel
theorem dX10_seats_1 : decode cX10_seats 1 = .ok (.iconst (-1), 1) := by decide +kernel
theorem dX10_seats_2 : decode cX10_seats 2 = .ok (.if_icmp .eq 15, 3) := by decide +kernel
theorem dX10_seats_5 : decode cX10_seats 5 = .ok (.aload_n 0, 1) := by decide +kernel
theorem dX10_seats_6 : decode cX10_seats 6 = .ok (.iload_n 1, 1) := by decide +kernel
theorem dX10_seats_7 : decode cX10_seats 7 = .ok (.invokevirtual 246, 3) := by decide +kernel
theorem dX10_seats_10 : decode cX10_seats 10 = .ok (.ifCond .ne 7, 3) := by decide +kernel
theorem dX10_seats_13 : decode cX10_seats 13 = .ok (.sipush (-1001), 3) := by decide +kernel
theorem dX10_seats_16 : decode cX10_seats 16 = .ok (.ireturn, 1) := by decide +kernel
theorem dX10_seats_17 : decode cX10_seats 17 = .ok (.iconst 1, 1) := by decide +kernel
theorem dX10_seats_18 : decode cX10_seats 18 = .ok (.istore_n 2, 1) := by decide +kernel
theorem dX10_seats_19 : decode cX10_seats 19 = .ok (.iconst 0, 1) := by decide +kernel
theorem dX10_seats_20 : decode cX10_seats 20 = .ok (.istore_n 3, 1) := by decide +kernel
theorem dX10_seats_21 : decode cX10_seats 21 = .ok (.iload_n 3, 1) := by decide +kernel
theorem dX10_seats_22 : decode cX10_seats 22 = .ok (.aload_n 0, 1) := by decide +kernel
theorem dX10_seats_23 : decode cX10_seats 23 = .ok (.getfield 7, 3) := by decide +kernel
theorem dX10_seats_26 : decode cX10_seats 26 = .ok (.if_icmp .ge 16, 3) := by decide +kernel
theorem dX10_seats_29 : decode cX10_seats 29 = .ok (.iload_n 2, 1) := by decide +kernel
theorem dX10_seats_30 : decode cX10_seats 30 = .ok (.aload_n 0, 1) := by decide +kernel
theorem dX10_seats_31 : decode cX10_seats 31 = .ok (.getfield 7, 3) := by decide +kernel
theorem dX10_seats_34 : decode cX10_seats 34 = .ok (.imul, 1) := by decide +kernel
theorem dX10_seats_35 : decode cX10_seats 35 = .ok (.istore_n 2, 1) := by decide +kernel
theorem dX10_seats_36 : decode cX10_seats 36 = .ok (.iinc 3 1, 3) := by decide +kernel
theorem dX10_seats_39 : decode cX10_seats 39 = .ok (.goto (-18), 3) := by decide +kernel
theorem dX10_seats_42 : decode cX10_seats 42 = .ok (.iconst (-1), 1) := by decide +kernel
theorem dX10_seats_43 : decode cX10_seats 43 = .ok (.istore_n 3, 1) := by decide +kernel
theorem dX10_seats_44 : decode cX10_seats 44 = .ok (.iconst 0, 1) := by decide +kernel
theorem dX10_seats_45 : decode cX10_seats 45 = .ok (.istore 4, 2) := by decide +kernel
theorem dX10_seats_47 : decode cX10_seats 47 = .ok (.iload 4, 2) := by decide +kernel
theorem dX10_seats_49 : decode cX10_seats 49 = .ok (.iload_n 2, 1) := by decide +kernel
theorem dX10_seats_50 : decode cX10_seats 50 = .ok (.if_icmp .ge 195, 3) := by decide +kernel
theorem dX10_seats_53 : decode cX10_seats 53 = .ok (.iload 4, 2) := by decide +kernel
theorem dX10_seats_55 : decode cX10_seats 55 = .ok (.istore 5, 2) := by decide +kernel
theorem dX10_seats_57 : decode cX10_seats 57 = .ok (.iconst 0, 1) := by decide +kernel
theorem dX10_seats_58 : decode cX10_seats 58 = .ok (.istore 6, 2) := by decide +kernel
theorem dX10_seats_60 : decode cX10_seats 60 = .ok (.iconst 0, 1) := by decide +kernel
theorem dX10_seats_61 : decode cX10_seats 61 = .ok (.istore 7, 2) := by decide +kernel
theorem dX10_seats_63 : decode cX10_seats 63 = .ok (.aload_n 0, 1) := by decide +kernel
theorem dX10_seats_64 : decode cX10_seats 64 = .ok (.getfield 7, 3) := by decide +kernel
theorem dX10_seats_67 : decode cX10_seats 67 = .ok (.iconst 1, 1) := by decide +kernel
theorem dX10_seats_68 : decode cX10_seats 68 = .ok (.isub, 1) := by decide +kernel
theorem dX10_seats_69 : decode cX10_seats 69 = .ok (.istore 8, 2) := by decide +kernel
theorem dX10_seats_71 : decode cX10_seats 71 = .ok (.iload 8, 2) := by decide +kernel
theorem dX10_seats_73 : decode cX10_seats 73 = .ok (.ifCond .lt 74, 3) := by decide +kernel
theorem dX10_seats_76 : decode cX10_seats 76 = .ok (.aload_n 0, 1) := by decide +kernel
theorem dX10_seats_77 : decode cX10_seats 77 = .ok (.getfield 144, 3) := by decide +kernel
theorem dX10_seats_80 : decode cX10_seats 80 = .ok (.iload 8, 2) := by decide +kernel
theorem dX10_seats_82 : decode cX10_seats 82 = .ok (.iload 5, 2) := by decide +kernel
theorem dX10_seats_84 : decode cX10_seats 84 = .ok (.aload_n 0, 1) := by decide +kernel
theorem dX10_seats_85 : decode cX10_seats 85 = .ok (.getfield 7, 3) := by decide +kernel
theorem dX10_seats_88 : decode cX10_seats 88 = .ok (.irem, 1) := by decide +kernel
theorem dX10_seats_89 : decode cX10_seats 89 = .ok (.iastore, 1) := by decide +kernel
theorem dX10_seats_90 : decode cX10_seats 90 = .ok (.iload 5, 2) := by decide +kernel
theorem dX10_seats_92 : decode cX10_seats 92 = .ok (.aload_n 0, 1) := by decide +kernel
theorem dX10_seats_93 : decode cX10_seats 93 = .ok (.getfield 7, 3) := by decide +kernel
theorem dX10_seats_96 : decode cX10_seats 96 = .ok (.idiv, 1) := by decide +kernel
theorem dX10_seats_97 : decode cX10_seats 97 = .ok (.istore 5, 2) := by decide +kernel
theorem dX10_seats_99 : decode cX10_seats 99 = .ok (.iload 6, 2) := by decide +kernel
theorem dX10_seats_101 : decode cX10_seats 101 = .ok (.iconst 1, 1) := by decide +kernel
theorem dX10_seats_102 : decode cX10_seats 102 = .ok (.aload_n 0, 1) := by decide +kernel
theorem dX10_seats_103 : decode cX10_seats 103 = .ok (.getfield 144, 3) := by decide +kernel
theorem dX10_seats_106 : decode cX10_seats 106 = .ok (.iload 8, 2) := by decide +kernel
theorem dX10_seats_108 : decode cX10_seats 108 = .ok (.iaload, 1) := by decide +kernel
theorem dX10_seats_109 : decode cX10_seats 109 = .ok (.ishl, 1) := by decide +kernel
theorem dX10_seats_110 : decode cX10_seats 110 = .ok (.ior, 1) := by decide +kernel
theorem dX10_seats_111 : decode cX10_seats 111 = .ok (.istore 6, 2) := by decide +kernel
theorem dX10_seats_113 : decode cX10_seats 113 = .ok (.iload 7, 2) := by decide +kernel
theorem dX10_seats_115 : decode cX10_seats 115 = .ok (.aload_n 0, 1) := by decide +kernel
theorem dX10_seats_116 : decode cX10_seats 116 = .ok (.aload_n 0, 1) := by decide +kernel
theorem dX10_seats_117 : decode cX10_seats 117 = .ok (.getfield 29, 3) := by decide +kernel
theorem dX10_seats_120 : decode cX10_seats 120 = .ok (.iload 8, 2) := by decide +kernel
theorem dX10_seats_122 : decode cX10_seats 122 = .ok (.iaload, 1) := by decide +kernel
theorem dX10_seats_123 : decode cX10_seats 123 = .ok (.aload_n 0, 1) := by decide +kernel
theorem dX10_seats_124 : decode cX10_seats 124 = .ok (.getfield 32, 3) := by decide +kernel
theorem dX10_seats_127 : decode cX10_seats 127 = .ok (.aload_n 0, 1) := by decide +kernel
theorem dX10_seats_128 : decode cX10_seats 128 = .ok (.getfield 144, 3) := by decide +kernel
theorem dX10_seats_131 : decode cX10_seats 131 = .ok (.iload 8, 2) := by decide +kernel
theorem dX10_seats_133 : decode cX10_seats 133 = .ok (.iaload, 1) := by decide +kernel
theorem dX10_seats_134 : decode cX10_seats 134 = .ok (.iaload, 1) := by decide +kernel
theorem dX10_seats_135 : decode cX10_seats 135 = .ok (.invokevirtual 328, 3) := by decide +kernel
theorem dX10_seats_138 : decode cX10_seats 138 = .ok (.iadd, 1) := by decide +kernel
theorem dX10_seats_139 : decode cX10_seats 139 = .ok (.istore 7, 2) := by decide +kernel
theorem dX10_seats_141 : decode cX10_seats 141 = .ok (.iinc 8 (-1), 3) := by decide +kernel
theorem dX10_seats_144 : decode cX10_seats 144 = .ok (.goto (-73), 3) := by decide +kernel
theorem dX10_seats_147 : decode cX10_seats 147 = .ok (.iload 6, 2) := by decide +kernel
theorem dX10_seats_149 : decode cX10_seats 149 = .ok (.iconst 1, 1) := by decide +kernel
theorem dX10_seats_150 : decode cX10_seats 150 = .ok (.aload_n 0, 1) := by decide +kernel
theorem dX10_seats_151 : decode cX10_seats 151 = .ok (.getfield 7, 3) := by decide +kernel
theorem dX10_seats_154 : decode cX10_seats 154 = .ok (.ishl, 1) := by decide +kernel
theorem dX10_seats_155 : decode cX10_seats 155 = .ok (.iconst 1, 1) := by decide +kernel
theorem dX10_seats_156 : decode cX10_seats 156 = .ok (.isub, 1) := by decide +kernel
theorem dX10_seats_157 : decode cX10_seats 157 = .ok (.if_icmp .ne 82, 3) := by decide +kernel
theorem dX10_seats_160 : decode cX10_seats 160 = .ok (.aload_n 0, 1) := by decide +kernel
theorem dX10_seats_161 : decode cX10_seats 161 = .ok (.aload_n 0, 1) := by decide +kernel
theorem dX10_seats_162 : decode cX10_seats 162 = .ok (.getfield 7, 3) := by decide +kernel
theorem dX10_seats_165 : decode cX10_seats 165 = .ok (.invokevirtual 362, 3) := by decide +kernel
theorem dX10_seats_168 : decode cX10_seats 168 = .ok (.ifCond .ne 6, 3) := by decide +kernel
theorem dX10_seats_171 : decode cX10_seats 171 = .ok (.goto 68, 3) := by decide +kernel
theorem dX10_seats_174 : decode cX10_seats 174 = .ok (.iload_n 3, 1) := by decide +kernel
theorem dX10_seats_175 : decode cX10_seats 175 = .ok (.ifCond .lt 29, 3) := by decide +kernel
theorem dX10_seats_178 : decode cX10_seats 178 = .ok (.iload 7, 2) := by decide +kernel
theorem dX10_seats_180 : decode cX10_seats 180 = .ok (.iload_n 3, 1) := by decide +kernel
theorem dX10_seats_181 : decode cX10_seats 181 = .ok (.if_icmp .gt 58, 3) := by decide +kernel
theorem dX10_seats_184 : decode cX10_seats 184 = .ok (.iload 7, 2) := by decide +kernel
theorem dX10_seats_186 : decode cX10_seats 186 = .ok (.iload_n 3, 1) := by decide +kernel
theorem dX10_seats_187 : decode cX10_seats 187 = .ok (.if_icmp .ne 17, 3) := by decide +kernel
theorem dX10_seats_190 : decode cX10_seats 190 = .ok (.aload_n 0, 1) := by decide +kernel
theorem dX10_seats_191 : decode cX10_seats 191 = .ok (.aload_n 0, 1) := by decide +kernel
theorem dX10_seats_192 : decode cX10_seats 192 = .ok (.getfield 7, 3) := by decide +kernel
theorem dX10_seats_195 : decode cX10_seats 195 = .ok (.invokevirtual 365, 3) := by decide +kernel
theorem dX10_seats_198 : decode cX10_seats 198 = .ok (.ifCond .ne 6, 3) := by decide +kernel
theorem dX10_seats_201 : decode cX10_seats 201 = .ok (.goto 38, 3) := by decide +kernel
theorem dX10_seats_204 : decode cX10_seats 204 = .ok (.iload 7, 2) := by decide +kernel
theorem dX10_seats_206 : decode cX10_seats 206 = .ok (.istore_n 3, 1) := by decide +kernel
theorem dX10_seats_207 : decode cX10_seats 207 = .ok (.iconst 0, 1) := by decide +kernel
theorem dX10_seats_208 : decode cX10_seats 208 = .ok (.istore 8, 2) := by decide +kernel
theorem dX10_seats_210 : decode cX10_seats 210 = .ok (.iload 8, 2) := by decide +kernel
theorem dX10_seats_212 : decode cX10_seats 212 = .ok (.aload_n 0, 1) := by decide +kernel
theorem dX10_seats_213 : decode cX10_seats 213 = .ok (.getfield 7, 3) := by decide +kernel
theorem dX10_seats_216 : decode cX10_seats 216 = .ok (.if_icmp .ge 23, 3) := by decide +kernel
theorem dX10_seats_219 : decode cX10_seats 219 = .ok (.aload_n 0, 1) := by decide +kernel
theorem dX10_seats_220 : decode cX10_seats 220 = .ok (.getfield 147, 3) := by decide +kernel
theorem dX10_seats_223 : decode cX10_seats 223 = .ok (.iload 8, 2) := by decide +kernel
theorem dX10_seats_225 : decode cX10_seats 225 = .ok (.aload_n 0, 1) := by decide +kernel
theorem dX10_seats_226 : decode cX10_seats 226 = .ok (.getfield 144, 3) := by decide +kernel
theorem dX10_seats_229 : decode cX10_seats 229 = .ok (.iload 8, 2) := by decide +kernel
theorem dX10_seats_231 : decode cX10_seats 231 = .ok (.iaload, 1) := by decide +kernel
theorem dX10_seats_232 : decode cX10_seats 232 = .ok (.iastore, 1) := by decide +kernel
theorem dX10_seats_233 : decode cX10_seats 233 = .ok (.iinc 8 1, 3) := by decide +kernel
theorem dX10_seats_236 : decode cX10_seats 236 = .ok (.goto (-26), 3) := by decide +kernel
theorem dX10_seats_239 : decode cX10_seats 239 = .ok (.iinc 4 1, 3) := by decide +kernel
theorem dX10_seats_242 : decode cX10_seats 242 = .ok (.goto (-195), 3) := by decide +kernel
theorem dX10_seats_245 : decode cX10_seats 245 = .ok (.iload_n 3, 1) := by decide +kernel
theorem dX10_seats_246 : decode cX10_seats 246 = .ok (.ifCond .ge 8, 3) := by decide +kernel
theorem dX10_seats_249 : decode cX10_seats 249 = .ok (.bipush (-5), 2) := by decide +kernel
theorem dX10_seats_251 : decode cX10_seats 251 = .ok (.goto 22, 3) := by decide +kernel
theorem dX10_seats_254 : decode cX10_seats 254 = .ok (.iload_n 1, 1) := by decide +kernel
theorem dX10_seats_255 : decode cX10_seats 255 = .ok (.ifCond .ge 7, 3) := by decide +kernel
theorem dX10_seats_258 : decode cX10_seats 258 = .ok (.iload_n 3, 1) := by decide +kernel
theorem dX10_seats_259 : decode cX10_seats 259 = .ok (.goto 14, 3) := by decide +kernel
theorem dX10_seats_262 : decode cX10_seats 262 = .ok (.aload_n 0, 1) := by decide +kernel
theorem dX10_seats_263 : decode cX10_seats 263 = .ok (.getfield 32, 3) := by decide +kernel
theorem dX10_seats_266 : decode cX10_seats 266 = .ok (.aload_n 0, 1) := by decide +kernel
theorem dX10_seats_267 : decode cX10_seats 267 = .ok (.getfield 147, 3) := by decide +kernel
theorem dX10_seats_270 : decode cX10_seats 270 = .ok (.iload_n 1, 1) := by decide +kernel
theorem dX10_seats_271 : decode cX10_seats 271 = .ok (.iaload, 1) := by decide +kernel
theorem dX10_seats_272 : decode cX10_seats 272 = .ok (.iaload, 1) := by decide +kernel
theorem dX10_seats_273 : decode cX10_seats 273 = .ok (.ireturn, 1) := by decide +kernel
theorem dX10_sit_0 : decode cX10_sit 0 = .ok (.aload_n 0, 1) := by decide +kernel
theorem dX10_sit_1 : decode cX10_sit 1 = .ok (.invokevirtual 338, 3) := by decide +kernel
theorem dX10_sit_4 : decode cX10_sit 4 = .ok (.iconst 0, 1) := by decide +kernel
theorem dX10_sit_5 : decode cX10_sit 5 = .ok (.istore_n 1, 1) := by decide +kernel
theorem dX10_sit_6 : decode cX10_sit 6 = .ok (.iload_n 1, 1) := by decide +kernel
theorem dX10_sit_7 : decode cX10_sit 7 = .ok (.bipush 61, 2) := by decide +kernel
theorem dX10_sit_9 : decode cX10_sit 9 = .ok (.if_icmp .ge 62, 3) := by decide +kernel
theorem dX10_sit_12 : decode cX10_sit 12 = .ok (.iconst 1, 1) := by decide +kernel
theorem dX10_sit_13 : decode cX10_sit 13 = .ok (.istore_n 2, 1) := by decide +kernel
theorem dX10_sit_14 : decode cX10_sit 14 = .ok (.iconst 0, 1) := by decide +kernel
theorem dX10_sit_15 : decode cX10_sit 15 = .ok (.istore_n 3, 1) := by decide +kernel
theorem dX10_sit_16 : decode cX10_sit 16 = .ok (.iload_n 3, 1) := by decide +kernel
theorem dX10_sit_17 : decode cX10_sit 17 = .ok (.aload_n 0, 1) := by decide +kernel
theorem dX10_sit_18 : decode cX10_sit 18 = .ok (.getfield 7, 3) := by decide +kernel
theorem dX10_sit_21 : decode cX10_sit 21 = .ok (.if_icmp .ge 34, 3) := by decide +kernel
theorem dX10_sit_24 : decode cX10_sit 24 = .ok (.iload_n 2, 1) := by decide +kernel
theorem dX10_sit_25 : decode cX10_sit 25 = .ok (.ifCond .eq 22, 3) := by decide +kernel
theorem dX10_sit_28 : decode cX10_sit 28 = .ok (.aload_n 0, 1) := by decide +kernel
theorem dX10_sit_29 : decode cX10_sit 29 = .ok (.getfield 101, 3) := by decide +kernel
theorem dX10_sit_32 : decode cX10_sit 32 = .ok (.iload_n 3, 1) := by decide +kernel
theorem dX10_sit_33 : decode cX10_sit 33 = .ok (.iaload, 1) := by decide +kernel
theorem dX10_sit_34 : decode cX10_sit 34 = .ok (.aload_n 0, 1) := by decide +kernel
theorem dX10_sit_35 : decode cX10_sit 35 = .ok (.getfield 32, 3) := by decide +kernel
theorem dX10_sit_38 : decode cX10_sit 38 = .ok (.iload_n 3, 1) := by decide +kernel
theorem dX10_sit_39 : decode cX10_sit 39 = .ok (.iaload, 1) := by decide +kernel
theorem dX10_sit_40 : decode cX10_sit 40 = .ok (.if_icmp .ne 7, 3) := by decide +kernel
theorem dX10_sit_43 : decode cX10_sit 43 = .ok (.iconst 1, 1) := by decide +kernel
theorem dX10_sit_44 : decode cX10_sit 44 = .ok (.goto 4, 3) := by decide +kernel
theorem dX10_sit_47 : decode cX10_sit 47 = .ok (.iconst 0, 1) := by decide +kernel
theorem dX10_sit_48 : decode cX10_sit 48 = .ok (.istore_n 2, 1) := by decide +kernel
theorem dX10_sit_49 : decode cX10_sit 49 = .ok (.iinc 3 1, 3) := by decide +kernel
theorem dX10_sit_52 : decode cX10_sit 52 = .ok (.goto (-36), 3) := by decide +kernel
theorem dX10_sit_55 : decode cX10_sit 55 = .ok (.iload_n 2, 1) := by decide +kernel
theorem dX10_sit_56 : decode cX10_sit 56 = .ok (.ifCond .eq 5, 3) := by decide +kernel
theorem dX10_sit_59 : decode cX10_sit 59 = .ok (.iload_n 1, 1) := by decide +kernel
theorem dX10_sit_60 : decode cX10_sit 60 = .ok (.ireturn, 1) := by decide +kernel
theorem dX10_sit_61 : decode cX10_sit 61 = .ok (.aload_n 0, 1) := by decide +kernel
theorem dX10_sit_62 : decode cX10_sit 62 = .ok (.invokevirtual 344, 3) := by decide +kernel
theorem dX10_sit_65 : decode cX10_sit 65 = .ok (.iinc 1 1, 3) := by decide +kernel
theorem dX10_sit_68 : decode cX10_sit 68 = .ok (.goto (-62), 3) := by decide +kernel
theorem dX10_sit_71 : decode cX10_sit 71 = .ok (.bipush (-5), 2) := by decide +kernel
theorem dX10_sit_73 : decode cX10_sit 73 = .ok (.ireturn, 1) := by decide +kernel
theorem dX10_corner_0 : decode cX10_corner 0 = .ok (.iload_n 1, 1) := by decide +kernel
theorem dX10_corner_1 : decode cX10_corner 1 = .ok (.ifCond .ne 7, 3) := by decide +kernel
theorem dX10_corner_4 : decode cX10_corner 4 = .ok (.iconst 0, 1) := by decide +kernel
theorem dX10_corner_5 : decode cX10_corner 5 = .ok (.goto 24, 3) := by decide +kernel
theorem dX10_corner_8 : decode cX10_corner 8 = .ok (.iload_n 1, 1) := by decide +kernel
theorem dX10_corner_9 : decode cX10_corner 9 = .ok (.iconst 1, 1) := by decide +kernel
theorem dX10_corner_10 : decode cX10_corner 10 = .ok (.if_icmp .ne 7, 3) := by decide +kernel
theorem dX10_corner_13 : decode cX10_corner 13 = .ok (.iconst 5, 1) := by decide +kernel
theorem dX10_corner_14 : decode cX10_corner 14 = .ok (.goto 15, 3) := by decide +kernel
theorem dX10_corner_17 : decode cX10_corner 17 = .ok (.iload_n 1, 1) := by decide +kernel
theorem dX10_corner_18 : decode cX10_corner 18 = .ok (.iconst 2, 1) := by decide +kernel
theorem dX10_corner_19 : decode cX10_corner 19 = .ok (.if_icmp .ne 8, 3) := by decide +kernel
theorem dX10_corner_22 : decode cX10_corner 22 = .ok (.bipush 30, 2) := by decide +kernel
theorem dX10_corner_24 : decode cX10_corner 24 = .ok (.goto 5, 3) := by decide +kernel
theorem dX10_corner_27 : decode cX10_corner 27 = .ok (.bipush 35, 2) := by decide +kernel
theorem dX10_corner_29 : decode cX10_corner 29 = .ok (.ireturn, 1) := by decide +kernel
theorem dX10_line_0 : decode cX10_line 0 = .ok (.aload_n 0, 1) := by decide +kernel
theorem dX10_line_1 : decode cX10_line 1 = .ok (.iload_n 1, 1) := by decide +kernel
theorem dX10_line_2 : decode cX10_line 2 = .ok (.invokevirtual 246, 3) := by decide +kernel
theorem dX10_line_5 : decode cX10_line 5 = .ok (.ifCond .ne 5, 3) := by decide +kernel
theorem dX10_line_8 : decode cX10_line 8 = .ok (.iconst (-1), 1) := by decide +kernel
theorem dX10_line_9 : decode cX10_line 9 = .ok (.ireturn, 1) := by decide +kernel
theorem dX10_line_10 : decode cX10_line 10 = .ok (.aload_n 0, 1) := by decide +kernel
theorem dX10_line_11 : decode cX10_line 11 = .ok (.invokevirtual 338, 3) := by decide +kernel
theorem dX10_line_14 : decode cX10_line 14 = .ok (.aload_n 0, 1) := by decide +kernel
theorem dX10_line_15 : decode cX10_line 15 = .ok (.getfield 29, 3) := by decide +kernel
theorem dX10_line_18 : decode cX10_line 18 = .ok (.iload_n 1, 1) := by decide +kernel
theorem dX10_line_19 : decode cX10_line 19 = .ok (.iaload, 1) := by decide +kernel
theorem dX10_line_20 : decode cX10_line 20 = .ok (.istore_n 2, 1) := by decide +kernel
theorem dX10_line_21 : decode cX10_line 21 = .ok (.iconst 0, 1) := by decide +kernel
theorem dX10_line_22 : decode cX10_line 22 = .ok (.istore_n 3, 1) := by decide +kernel
theorem dX10_line_23 : decode cX10_line 23 = .ok (.iconst 1, 1) := by decide +kernel
theorem dX10_line_24 : decode cX10_line 24 = .ok (.istore 4, 2) := by decide +kernel
theorem dX10_line_26 : decode cX10_line 26 = .ok (.iload 4, 2) := by decide +kernel
theorem dX10_line_28 : decode cX10_line 28 = .ok (.iconst 4, 1) := by decide +kernel
theorem dX10_line_29 : decode cX10_line 29 = .ok (.if_icmp .ge 40, 3) := by decide +kernel
theorem dX10_line_32 : decode cX10_line 32 = .ok (.aload_n 0, 1) := by decide +kernel
theorem dX10_line_33 : decode cX10_line 33 = .ok (.aload_n 0, 1) := by decide +kernel
theorem dX10_line_34 : decode cX10_line 34 = .ok (.iload 4, 2) := by decide +kernel
theorem dX10_line_36 : decode cX10_line 36 = .ok (.invokevirtual 368, 3) := by decide +kernel
theorem dX10_line_39 : decode cX10_line 39 = .ok (.iload_n 2, 1) := by decide +kernel
theorem dX10_line_40 : decode cX10_line 40 = .ok (.invokevirtual 301, 3) := by decide +kernel
theorem dX10_line_43 : decode cX10_line 43 = .ok (.aload_n 0, 1) := by decide +kernel
theorem dX10_line_44 : decode cX10_line 44 = .ok (.iload_n 3, 1) := by decide +kernel
theorem dX10_line_45 : decode cX10_line 45 = .ok (.iload_n 2, 1) := by decide +kernel
theorem dX10_line_46 : decode cX10_line 46 = .ok (.invokevirtual 301, 3) := by decide +kernel
theorem dX10_line_49 : decode cX10_line 49 = .ok (.if_icmp .le 12, 3) := by decide +kernel
theorem dX10_line_52 : decode cX10_line 52 = .ok (.aload_n 0, 1) := by decide +kernel
theorem dX10_line_53 : decode cX10_line 53 = .ok (.iload 4, 2) := by decide +kernel
theorem dX10_line_55 : decode cX10_line 55 = .ok (.invokevirtual 368, 3) := by decide +kernel
theorem dX10_line_58 : decode cX10_line 58 = .ok (.goto 4, 3) := by decide +kernel
theorem dX10_line_61 : decode cX10_line 61 = .ok (.iload_n 3, 1) := by decide +kernel
theorem dX10_line_62 : decode cX10_line 62 = .ok (.istore_n 3, 1) := by decide +kernel
theorem dX10_line_63 : decode cX10_line 63 = .ok (.iinc 4 1, 3) := by decide +kernel
theorem dX10_line_66 : decode cX10_line 66 = .ok (.goto (-40), 3) := by decide +kernel
theorem dX10_line_69 : decode cX10_line 69 = .ok (.iload_n 3, 1) := by decide +kernel
theorem dX10_line_70 : decode cX10_line 70 = .ok (.iload_n 2, 1) := by decide +kernel
theorem dX10_line_71 : decode cX10_line 71 = .ok (.if_icmp .eq 85, 3) := by decide +kernel
theorem dX10_line_74 : decode cX10_line 74 = .ok (.aload_n 0, 1) := by decide +kernel
theorem dX10_line_75 : decode cX10_line 75 = .ok (.iload_n 3, 1) := by decide +kernel
theorem dX10_line_76 : decode cX10_line 76 = .ok (.putfield 92, 3) := by decide +kernel
theorem dX10_line_79 : decode cX10_line 79 = .ok (.aload_n 0, 1) := by decide +kernel
theorem dX10_line_80 : decode cX10_line 80 = .ok (.iload_n 1, 1) := by decide +kernel
theorem dX10_line_81 : decode cX10_line 81 = .ok (.invokevirtual 341, 3) := by decide +kernel
theorem dX10_line_84 : decode cX10_line 84 = .ok (.ifCond .le 10, 3) := by decide +kernel
theorem dX10_line_87 : decode cX10_line 87 = .ok (.aload_n 0, 1) := by decide +kernel
theorem dX10_line_88 : decode cX10_line 88 = .ok (.iload_n 3, 1) := by decide +kernel
theorem dX10_line_89 : decode cX10_line 89 = .ok (.iload_n 2, 1) := by decide +kernel
theorem dX10_line_90 : decode cX10_line 90 = .ok (.invokevirtual 301, 3) := by decide +kernel
theorem dX10_line_93 : decode cX10_line 93 = .ok (.ireturn, 1) := by decide +kernel
theorem dX10_line_94 : decode cX10_line 94 = .ok (.iconst (-1), 1) := by decide +kernel
theorem dX10_line_95 : decode cX10_line 95 = .ok (.istore 4, 2) := by decide +kernel
theorem dX10_line_97 : decode cX10_line 97 = .ok (.iconst 3, 1) := by decide +kernel
theorem dX10_line_98 : decode cX10_line 98 = .ok (.istore 5, 2) := by decide +kernel
theorem dX10_line_100 : decode cX10_line 100 = .ok (.iload 5, 2) := by decide +kernel
theorem dX10_line_102 : decode cX10_line 102 = .ok (.ifCond .lt 48, 3) := by decide +kernel
theorem dX10_line_105 : decode cX10_line 105 = .ok (.aload_n 0, 1) := by decide +kernel
theorem dX10_line_106 : decode cX10_line 106 = .ok (.iload_n 3, 1) := by decide +kernel
theorem dX10_line_107 : decode cX10_line 107 = .ok (.iload 5, 2) := by decide +kernel
theorem dX10_line_109 : decode cX10_line 109 = .ok (.invokevirtual 304, 3) := by decide +kernel
theorem dX10_line_112 : decode cX10_line 112 = .ok (.istore 6, 2) := by decide +kernel
theorem dX10_line_114 : decode cX10_line 114 = .ok (.iload 6, 2) := by decide +kernel
theorem dX10_line_116 : decode cX10_line 116 = .ok (.ifCond .lt 24, 3) := by decide +kernel
theorem dX10_line_119 : decode cX10_line 119 = .ok (.aload_n 0, 1) := by decide +kernel
theorem dX10_line_120 : decode cX10_line 120 = .ok (.iload 6, 2) := by decide +kernel
theorem dX10_line_122 : decode cX10_line 122 = .ok (.iload_n 2, 1) := by decide +kernel
theorem dX10_line_123 : decode cX10_line 123 = .ok (.invokevirtual 328, 3) := by decide +kernel
theorem dX10_line_126 : decode cX10_line 126 = .ok (.aload_n 0, 1) := by decide +kernel
theorem dX10_line_127 : decode cX10_line 127 = .ok (.iload_n 3, 1) := by decide +kernel
theorem dX10_line_128 : decode cX10_line 128 = .ok (.iload_n 2, 1) := by decide +kernel
theorem dX10_line_129 : decode cX10_line 129 = .ok (.invokevirtual 328, 3) := by decide +kernel
theorem dX10_line_132 : decode cX10_line 132 = .ok (.if_icmp .ge 8, 3) := by decide +kernel
theorem dX10_line_135 : decode cX10_line 135 = .ok (.iload 6, 2) := by decide +kernel
theorem dX10_line_137 : decode cX10_line 137 = .ok (.goto 5, 3) := by decide +kernel
theorem dX10_line_140 : decode cX10_line 140 = .ok (.iload 4, 2) := by decide +kernel
theorem dX10_line_142 : decode cX10_line 142 = .ok (.istore 4, 2) := by decide +kernel
theorem dX10_line_144 : decode cX10_line 144 = .ok (.iinc 5 (-1), 3) := by decide +kernel
theorem dX10_line_147 : decode cX10_line 147 = .ok (.goto (-47), 3) := by decide +kernel
theorem dX10_line_150 : decode cX10_line 150 = .ok (.iload 4, 2) := by decide +kernel
theorem dX10_line_152 : decode cX10_line 152 = .ok (.istore_n 3, 1) := by decide +kernel
theorem dX10_line_153 : decode cX10_line 153 = .ok (.goto (-84), 3) := by decide +kernel
theorem dX10_line_156 : decode cX10_line 156 = .ok (.bipush (-5), 2) := by decide +kernel
theorem dX10_line_158 : decode cX10_line 158 = .ok (.ireturn, 1) := by decide +kernel
theorem dX10_thunder_0 : decode cX10_thunder 0 = .ok (.aload_n 0, 1) := by decide +kernel
theorem dX10_thunder_1 : decode cX10_thunder 1 = .ok (.iload_n 1, 1) := by decide +kernel
theorem dX10_thunder_2 : decode cX10_thunder 2 = .ok (.iconst 0, 1) := by decide +kernel
theorem dX10_thunder_3 : decode cX10_thunder 3 = .ok (.bipush 10, 2) := by decide +kernel
theorem dX10_thunder_5 : decode cX10_thunder 5 = .ok (.invokevirtual 231, 3) := by decide +kernel
theorem dX10_thunder_8 : decode cX10_thunder 8 = .ok (.ifCond .ne 6, 3) := by decide +kernel
theorem dX10_thunder_11 : decode cX10_thunder 11 = .ok (.bipush (-2), 2) := by decide +kernel
theorem dX10_thunder_13 : decode cX10_thunder 13 = .ok (.ireturn, 1) := by decide +kernel
theorem dX10_thunder_14 : decode cX10_thunder 14 = .ok (.aload_n 0, 1) := by decide +kernel
theorem dX10_thunder_15 : decode cX10_thunder 15 = .ok (.getfield 19, 3) := by decide +kernel
theorem dX10_thunder_18 : decode cX10_thunder 18 = .ok (.istore_n 2, 1) := by decide +kernel
theorem dX10_thunder_19 : decode cX10_thunder 19 = .ok (.aload_n 0, 1) := by decide +kernel
theorem dX10_thunder_20 : decode cX10_thunder 20 = .ok (.iload_n 1, 1) := by decide +kernel
theorem dX10_thunder_21 : decode cX10_thunder 21 = .ok (.putfield 19, 3) := by decide +kernel
theorem dX10_thunder_24 : decode cX10_thunder 24 = .ok (.iload_n 2, 1) := by decide +kernel
theorem dX10_thunder_25 : decode cX10_thunder 25 = .ok (.ireturn, 1) := by decide +kernel
theorem dX10_divisor_0 : decode cX10_divisor 0 = .ok (.lload_n 1, 1) := by decide +kernel
theorem dX10_divisor_1 : decode cX10_divisor 1 = .ok (.lstore 5, 2) := by decide +kernel
theorem dX10_divisor_3 : decode cX10_divisor 3 = .ok (.lload_n 3, 1) := by decide +kernel
theorem dX10_divisor_4 : decode cX10_divisor 4 = .ok (.lstore 7, 2) := by decide +kernel
theorem dX10_divisor_6 : decode cX10_divisor 6 = .ok (.lload 7, 2) := by decide +kernel
theorem dX10_divisor_8 : decode cX10_divisor 8 = .ok (.lconst 0, 1) := by decide +kernel
theorem dX10_divisor_9 : decode cX10_divisor 9 = .ok (.lcmp, 1) := by decide +kernel
theorem dX10_divisor_10 : decode cX10_divisor 10 = .ok (.ifCond .eq 21, 3) := by decide +kernel
theorem dX10_divisor_13 : decode cX10_divisor 13 = .ok (.lload 5, 2) := by decide +kernel
theorem dX10_divisor_15 : decode cX10_divisor 15 = .ok (.lload 7, 2) := by decide +kernel
theorem dX10_divisor_17 : decode cX10_divisor 17 = .ok (.lrem, 1) := by decide +kernel
theorem dX10_divisor_18 : decode cX10_divisor 18 = .ok (.lstore 9, 2) := by decide +kernel
theorem dX10_divisor_20 : decode cX10_divisor 20 = .ok (.lload 7, 2) := by decide +kernel
theorem dX10_divisor_22 : decode cX10_divisor 22 = .ok (.lstore 5, 2) := by decide +kernel
theorem dX10_divisor_24 : decode cX10_divisor 24 = .ok (.lload 9, 2) := by decide +kernel
theorem dX10_divisor_26 : decode cX10_divisor 26 = .ok (.lstore 7, 2) := by decide +kernel
theorem dX10_divisor_28 : decode cX10_divisor 28 = .ok (.goto (-22), 3) := by decide +kernel
theorem dX10_divisor_31 : decode cX10_divisor 31 = .ok (.lload 5, 2) := by decide +kernel
theorem dX10_divisor_33 : decode cX10_divisor 33 = .ok (.lreturn, 1) := by decide +kernel
theorem dX10_calm_0 : decode cX10_calm 0 = .ok (.aload_n 0, 1) := by decide +kernel
theorem dX10_calm_1 : decode cX10_calm 1 = .ok (.iload_n 1, 1) := by decide +kernel
theorem dX10_calm_2 : decode cX10_calm 2 = .ok (.iconst 1, 1) := by decide +kernel
theorem dX10_calm_3 : decode cX10_calm 3 = .ok (.bipush 6, 2) := by decide +kernel
theorem dX10_calm_5 : decode cX10_calm 5 = .ok (.invokevirtual 231, 3) := by decide +kernel
theorem dX10_calm_8 : decode cX10_calm 8 = .ok (.ifCond .eq 13, 3) := by decide +kernel
theorem dX10_calm_11 : decode cX10_calm 11 = .ok (.aload_n 0, 1) := by decide +kernel
theorem dX10_calm_12 : decode cX10_calm 12 = .ok (.iload_n 2, 1) := by decide +kernel
theorem dX10_calm_13 : decode cX10_calm 13 = .ok (.iconst 0, 1) := by decide +kernel
theorem dX10_calm_14 : decode cX10_calm 14 = .ok (.iconst 1, 1) := by decide +kernel
theorem dX10_calm_15 : decode cX10_calm 15 = .ok (.invokevirtual 231, 3) := by decide +kernel
theorem dX10_calm_18 : decode cX10_calm 18 = .ok (.ifCond .ne 7, 3) := by decide +kernel
theorem dX10_calm_21 : decode cX10_calm 21 = .ok (.ldc2_w 371, 3) := by decide +kernel
theorem dX10_calm_24 : decode cX10_calm 24 = .ok (.lreturn, 1) := by decide +kernel
theorem dX10_calm_25 : decode cX10_calm 25 = .ok (.lconst 0, 1) := by decide +kernel
theorem dX10_calm_26 : decode cX10_calm 26 = .ok (.lstore_n 3, 1) := by decide +kernel
theorem dX10_calm_27 : decode cX10_calm 27 = .ok (.lconst 1, 1) := by decide +kernel
theorem dX10_calm_28 : decode cX10_calm 28 = .ok (.lstore 5, 2) := by decide +kernel
theorem dX10_calm_30 : decode cX10_calm 30 = .ok (.iconst 0, 1) := by decide +kernel
theorem dX10_calm_31 : decode cX10_calm 31 = .ok (.istore 7, 2) := by decide +kernel
theorem dX10_calm_33 : decode cX10_calm 33 = .ok (.iload 7, 2) := by decide +kernel
theorem dX10_calm_35 : decode cX10_calm 35 = .ok (.iload_n 1, 1) := by decide +kernel
theorem dX10_calm_36 : decode cX10_calm 36 = .ok (.if_icmp .ge 17, 3) := by decide +kernel
theorem dX10_calm_39 : decode cX10_calm 39 = .ok (.lload 5, 2) := by decide +kernel
theorem dX10_calm_41 : decode cX10_calm 41 = .ok (.ldc2_w 373, 3) := by decide +kernel
theorem dX10_calm_44 : decode cX10_calm 44 = .ok (.lmul, 1) := by decide +kernel
theorem dX10_calm_45 : decode cX10_calm 45 = .ok (.lstore 5, 2) := by decide +kernel
theorem dX10_calm_47 : decode cX10_calm 47 = .ok (.iinc 7 1, 3) := by decide +kernel
theorem dX10_calm_50 : decode cX10_calm 50 = .ok (.goto (-17), 3) := by decide +kernel
theorem dX10_calm_53 : decode cX10_calm 53 = .ok (.iconst 0, 1) := by decide +kernel
theorem dX10_calm_54 : decode cX10_calm 54 = .ok (.istore 7, 2) := by decide +kernel
theorem dX10_calm_56 : decode cX10_calm 56 = .ok (.iload 7, 2) := by decide +kernel
theorem dX10_calm_58 : decode cX10_calm 58 = .ok (.iconst 1, 1) := by decide +kernel
theorem dX10_calm_59 : decode cX10_calm 59 = .ok (.iload_n 1, 1) := by decide +kernel
theorem dX10_calm_60 : decode cX10_calm 60 = .ok (.ishl, 1) := by decide +kernel
theorem dX10_calm_61 : decode cX10_calm 61 = .ok (.if_icmp .ge 151, 3) := by decide +kernel
theorem dX10_calm_64 : decode cX10_calm 64 = .ok (.lconst 1, 1) := by decide +kernel
theorem dX10_calm_65 : decode cX10_calm 65 = .ok (.lstore 8, 2) := by decide +kernel
theorem dX10_calm_67 : decode cX10_calm 67 = .ok (.iconst 0, 1) := by decide +kernel
theorem dX10_calm_68 : decode cX10_calm 68 = .ok (.istore 10, 2) := by decide +kernel
theorem dX10_calm_70 : decode cX10_calm 70 = .ok (.iload 10, 2) := by decide +kernel
theorem dX10_calm_72 : decode cX10_calm 72 = .ok (.iload_n 1, 1) := by decide +kernel
theorem dX10_calm_73 : decode cX10_calm 73 = .ok (.if_icmp .ge 41, 3) := by decide +kernel
theorem dX10_calm_76 : decode cX10_calm 76 = .ok (.lload 8, 2) := by decide +kernel
theorem dX10_calm_78 : decode cX10_calm 78 = .ok (.iload 7, 2) := by decide +kernel
theorem dX10_calm_80 : decode cX10_calm 80 = .ok (.iload 10, 2) := by decide +kernel
theorem dX10_calm_82 : decode cX10_calm 82 = .ok (.ishr, 1) := by decide +kernel
theorem dX10_calm_83 : decode cX10_calm 83 = .ok (.iconst 1, 1) := by decide +kernel
theorem dX10_calm_84 : decode cX10_calm 84 = .ok (.iand, 1) := by decide +kernel
theorem dX10_calm_85 : decode cX10_calm 85 = .ok (.iconst 1, 1) := by decide +kernel
theorem dX10_calm_86 : decode cX10_calm 86 = .ok (.if_icmp .ne 11, 3) := by decide +kernel
theorem dX10_calm_89 : decode cX10_calm 89 = .ok (.aload_n 0, 1) := by decide +kernel
theorem dX10_calm_90 : decode cX10_calm 90 = .ok (.getfield 19, 3) := by decide +kernel
theorem dX10_calm_93 : decode cX10_calm 93 = .ok (.i2l, 1) := by decide +kernel
theorem dX10_calm_94 : decode cX10_calm 94 = .ok (.goto 11, 3) := by decide +kernel
theorem dX10_calm_97 : decode cX10_calm 97 = .ok (.bipush 10, 2) := by decide +kernel
theorem dX10_calm_99 : decode cX10_calm 99 = .ok (.aload_n 0, 1) := by decide +kernel
theorem dX10_calm_100 : decode cX10_calm 100 = .ok (.getfield 19, 3) := by decide +kernel
theorem dX10_calm_103 : decode cX10_calm 103 = .ok (.isub, 1) := by decide +kernel
theorem dX10_calm_104 : decode cX10_calm 104 = .ok (.i2l, 1) := by decide +kernel
theorem dX10_calm_105 : decode cX10_calm 105 = .ok (.lmul, 1) := by decide +kernel
theorem dX10_calm_106 : decode cX10_calm 106 = .ok (.lstore 8, 2) := by decide +kernel
theorem dX10_calm_108 : decode cX10_calm 108 = .ok (.iinc 10 1, 3) := by decide +kernel
theorem dX10_calm_111 : decode cX10_calm 111 = .ok (.goto (-41), 3) := by decide +kernel
theorem dX10_calm_114 : decode cX10_calm 114 = .ok (.lload 8, 2) := by decide +kernel
theorem dX10_calm_116 : decode cX10_calm 116 = .ok (.lconst 0, 1) := by decide +kernel
theorem dX10_calm_117 : decode cX10_calm 117 = .ok (.lcmp, 1) := by decide +kernel
theorem dX10_calm_118 : decode cX10_calm 118 = .ok (.ifCond .ne 6, 3) := by decide +kernel
theorem dX10_calm_121 : decode cX10_calm 121 = .ok (.goto 85, 3) := by decide +kernel
theorem dX10_calm_124 : decode cX10_calm 124 = .ok (.aload_n 0, 1) := by decide +kernel
theorem dX10_calm_125 : decode cX10_calm 125 = .ok (.invokevirtual 338, 3) := by decide +kernel
theorem dX10_calm_128 : decode cX10_calm 128 = .ok (.iconst 1, 1) := by decide +kernel
theorem dX10_calm_129 : decode cX10_calm 129 = .ok (.istore 10, 2) := by decide +kernel
theorem dX10_calm_131 : decode cX10_calm 131 = .ok (.iconst 0, 1) := by decide +kernel
theorem dX10_calm_132 : decode cX10_calm 132 = .ok (.istore 11, 2) := by decide +kernel
theorem dX10_calm_134 : decode cX10_calm 134 = .ok (.iload 11, 2) := by decide +kernel
theorem dX10_calm_136 : decode cX10_calm 136 = .ok (.iload_n 1, 1) := by decide +kernel
theorem dX10_calm_137 : decode cX10_calm 137 = .ok (.if_icmp .ge 55, 3) := by decide +kernel
theorem dX10_calm_140 : decode cX10_calm 140 = .ok (.iload 10, 2) := by decide +kernel
theorem dX10_calm_142 : decode cX10_calm 142 = .ok (.ifCond .eq 50, 3) := by decide +kernel
theorem dX10_calm_145 : decode cX10_calm 145 = .ok (.aload_n 0, 1) := by decide +kernel
theorem dX10_calm_146 : decode cX10_calm 146 = .ok (.iload 7, 2) := by decide +kernel
theorem dX10_calm_148 : decode cX10_calm 148 = .ok (.iload 11, 2) := by decide +kernel
theorem dX10_calm_150 : decode cX10_calm 150 = .ok (.ishr, 1) := by decide +kernel
theorem dX10_calm_151 : decode cX10_calm 151 = .ok (.iconst 1, 1) := by decide +kernel
theorem dX10_calm_152 : decode cX10_calm 152 = .ok (.iand, 1) := by decide +kernel
theorem dX10_calm_153 : decode cX10_calm 153 = .ok (.iconst 1, 1) := by decide +kernel
theorem dX10_calm_154 : decode cX10_calm 154 = .ok (.if_icmp .ne 10, 3) := by decide +kernel
theorem dX10_calm_157 : decode cX10_calm 157 = .ok (.aload_n 0, 1) := by decide +kernel
theorem dX10_calm_158 : decode cX10_calm 158 = .ok (.invokevirtual 375, 3) := by decide +kernel
theorem dX10_calm_161 : decode cX10_calm 161 = .ok (.goto 4, 3) := by decide +kernel
theorem dX10_calm_164 : decode cX10_calm 164 = .ok (.iconst 0, 1) := by decide +kernel
theorem dX10_calm_165 : decode cX10_calm 165 = .ok (.putfield 98, 3) := by decide +kernel
theorem dX10_calm_168 : decode cX10_calm 168 = .ok (.aload_n 0, 1) := by decide +kernel
theorem dX10_calm_169 : decode cX10_calm 169 = .ok (.invokevirtual 344, 3) := by decide +kernel
theorem dX10_calm_172 : decode cX10_calm 172 = .ok (.aload_n 0, 1) := by decide +kernel
theorem dX10_calm_173 : decode cX10_calm 173 = .ok (.invokevirtual 347, 3) := by decide +kernel
theorem dX10_calm_176 : decode cX10_calm 176 = .ok (.ifCond .ge 7, 3) := by decide +kernel
theorem dX10_calm_179 : decode cX10_calm 179 = .ok (.iconst 1, 1) := by decide +kernel
theorem dX10_calm_180 : decode cX10_calm 180 = .ok (.goto 4, 3) := by decide +kernel
theorem dX10_calm_183 : decode cX10_calm 183 = .ok (.iconst 0, 1) := by decide +kernel
theorem dX10_calm_184 : decode cX10_calm 184 = .ok (.istore 10, 2) := by decide +kernel
theorem dX10_calm_186 : decode cX10_calm 186 = .ok (.iinc 11 1, 3) := by decide +kernel
theorem dX10_calm_189 : decode cX10_calm 189 = .ok (.goto (-55), 3) := by decide +kernel
theorem dX10_calm_192 : decode cX10_calm 192 = .ok (.lload_n 3, 1) := by decide +kernel
theorem dX10_calm_193 : decode cX10_calm 193 = .ok (.iload 10, 2) := by decide +kernel
theorem dX10_calm_195 : decode cX10_calm 195 = .ok (.ifCond .eq 8, 3) := by decide +kernel
theorem dX10_calm_198 : decode cX10_calm 198 = .ok (.lload 8, 2) := by decide +kernel
theorem dX10_calm_200 : decode cX10_calm 200 = .ok (.goto 4, 3) := by decide +kernel
theorem dX10_calm_203 : decode cX10_calm 203 = .ok (.lconst 0, 1) := by decide +kernel
theorem dX10_calm_204 : decode cX10_calm 204 = .ok (.ladd, 1) := by decide +kernel
theorem dX10_calm_205 : decode cX10_calm 205 = .ok (.lstore_n 3, 1) := by decide +kernel
theorem dX10_calm_206 : decode cX10_calm 206 = .ok (.iinc 7 1, 3) := by decide +kernel
theorem dX10_calm_209 : decode cX10_calm 209 = .ok (.goto (-153), 3) := by decide +kernel
theorem dX10_calm_212 : decode cX10_calm 212 = .ok (.aload_n 0, 1) := by decide +kernel
theorem dX10_calm_213 : decode cX10_calm 213 = .ok (.lload_n 3, 1) := by decide +kernel
theorem dX10_calm_214 : decode cX10_calm 214 = .ok (.lload 5, 2) := by decide +kernel
theorem dX10_calm_216 : decode cX10_calm 216 = .ok (.invokevirtual 378, 3) := by decide +kernel
theorem dX10_calm_219 : decode cX10_calm 219 = .ok (.lstore 7, 2) := by decide +kernel
theorem dX10_calm_221 : decode cX10_calm 221 = .ok (.iload_n 2, 1) := by decide +kernel
theorem dX10_calm_222 : decode cX10_calm 222 = .ok (.ifCond .ne 10, 3) := by decide +kernel
theorem dX10_calm_225 : decode cX10_calm 225 = .ok (.lload_n 3, 1) := by decide +kernel
theorem dX10_calm_226 : decode cX10_calm 226 = .ok (.lload 7, 2) := by decide +kernel
theorem dX10_calm_228 : decode cX10_calm 228 = .ok (.ldiv, 1) := by decide +kernel
theorem dX10_calm_229 : decode cX10_calm 229 = .ok (.goto 8, 3) := by decide +kernel
theorem dX10_calm_232 : decode cX10_calm 232 = .ok (.lload 5, 2) := by decide +kernel
theorem dX10_calm_234 : decode cX10_calm 234 = .ok (.lload 7, 2) := by decide +kernel
theorem dX10_calm_236 : decode cX10_calm 236 = .ok (.ldiv, 1) := by decide +kernel
theorem dX10_calm_237 : decode cX10_calm 237 = .ok (.lreturn, 1) := by decide +kernel
theorem dX10_film_0 : decode cX10_film 0 = .ok (.iload_n 1, 1) := by decide +kernel
theorem dX10_film_1 : decode cX10_film 1 = .ok (.iconst (-1), 1) := by decide +kernel
theorem dX10_film_2 : decode cX10_film 2 = .ok (.if_icmp .ne 10, 3) := by decide +kernel
theorem dX10_film_5 : decode cX10_film 5 = .ok (.aload_n 0, 1) := by decide +kernel
theorem dX10_film_6 : decode cX10_film 6 = .ok (.iconst 0, 1) := by decide +kernel
theorem dX10_film_7 : decode cX10_film 7 = .ok (.putfield 150, 3) := by decide +kernel
theorem dX10_film_10 : decode cX10_film 10 = .ok (.iconst 0, 1) := by decide +kernel
theorem dX10_film_11 : decode cX10_film 11 = .ok (.ireturn, 1) := by decide +kernel
theorem dX10_film_12 : decode cX10_film 12 = .ok (.aload_n 0, 1) := by decide +kernel
theorem dX10_film_13 : decode cX10_film 13 = .ok (.iload_n 1, 1) := by decide +kernel
theorem dX10_film_14 : decode cX10_film 14 = .ok (.invokevirtual 235, 3) := by decide +kernel
theorem dX10_film_17 : decode cX10_film 17 = .ok (.ifCond .ne 5, 3) := by decide +kernel
theorem dX10_film_20 : decode cX10_film 20 = .ok (.iconst (-1), 1) := by decide +kernel
theorem dX10_film_21 : decode cX10_film 21 = .ok (.ireturn, 1) := by decide +kernel
theorem dX10_film_22 : decode cX10_film 22 = .ok (.aload_n 0, 1) := by decide +kernel
theorem dX10_film_23 : decode cX10_film 23 = .ok (.getfield 150, 3) := by decide +kernel
theorem dX10_film_26 : decode cX10_film 26 = .ok (.bipush 10, 2) := by decide +kernel
theorem dX10_film_28 : decode cX10_film 28 = .ok (.if_icmp .ne 6, 3) := by decide +kernel
theorem dX10_film_31 : decode cX10_film 31 = .ok (.bipush (-4), 2) := by decide +kernel
theorem dX10_film_33 : decode cX10_film 33 = .ok (.ireturn, 1) := by decide +kernel
theorem dX10_film_34 : decode cX10_film 34 = .ok (.aload_n 0, 1) := by decide +kernel
theorem dX10_film_35 : decode cX10_film 35 = .ok (.getfield 153, 3) := by decide +kernel
theorem dX10_film_38 : decode cX10_film 38 = .ok (.aload_n 0, 1) := by decide +kernel
theorem dX10_film_39 : decode cX10_film 39 = .ok (.getfield 150, 3) := by decide +kernel
theorem dX10_film_42 : decode cX10_film 42 = .ok (.iload_n 1, 1) := by decide +kernel
theorem dX10_film_43 : decode cX10_film 43 = .ok (.iastore, 1) := by decide +kernel
theorem dX10_film_44 : decode cX10_film 44 = .ok (.aload_n 0, 1) := by decide +kernel
theorem dX10_film_45 : decode cX10_film 45 = .ok (.dup, 1) := by decide +kernel
theorem dX10_film_46 : decode cX10_film 46 = .ok (.getfield 150, 3) := by decide +kernel
theorem dX10_film_49 : decode cX10_film 49 = .ok (.iconst 1, 1) := by decide +kernel
theorem dX10_film_50 : decode cX10_film 50 = .ok (.iadd, 1) := by decide +kernel
theorem dX10_film_51 : decode cX10_film 51 = .ok (.putfield 150, 3) := by decide +kernel
theorem dX10_film_54 : decode cX10_film 54 = .ok (.aload_n 0, 1) := by decide +kernel
theorem dX10_film_55 : decode cX10_film 55 = .ok (.getfield 150, 3) := by decide +kernel
theorem dX10_film_58 : decode cX10_film 58 = .ok (.ireturn, 1) := by decide +kernel
theorem dX10_kinds_0 : decode cX10_kinds 0 = .ok (.aload_n 0, 1) := by decide +kernel
theorem dX10_kinds_1 : decode cX10_kinds 1 = .ok (.iload_n 1, 1) := by decide +kernel
theorem dX10_kinds_2 : decode cX10_kinds 2 = .ok (.invokevirtual 246, 3) := by decide +kernel
theorem dX10_kinds_5 : decode cX10_kinds 5 = .ok (.ifCond .ne 5, 3) := by decide +kernel
theorem dX10_kinds_8 : decode cX10_kinds 8 = .ok (.iconst (-1), 1) := by decide +kernel
theorem dX10_kinds_9 : decode cX10_kinds 9 = .ok (.ireturn, 1) := by decide +kernel
theorem dX10_kinds_10 : decode cX10_kinds 10 = .ok (.iconst 0, 1) := by decide +kernel
theorem dX10_kinds_11 : decode cX10_kinds 11 = .ok (.istore_n 2, 1) := by decide +kernel
theorem dX10_kinds_12 : decode cX10_kinds 12 = .ok (.iconst 0, 1) := by decide +kernel
theorem dX10_kinds_13 : decode cX10_kinds 13 = .ok (.istore_n 3, 1) := by decide +kernel
theorem dX10_kinds_14 : decode cX10_kinds 14 = .ok (.iload_n 3, 1) := by decide +kernel
theorem dX10_kinds_15 : decode cX10_kinds 15 = .ok (.bipush 7, 2) := by decide +kernel
theorem dX10_kinds_17 : decode cX10_kinds 17 = .ok (.if_icmp .ge 88, 3) := by decide +kernel
theorem dX10_kinds_20 : decode cX10_kinds 20 = .ok (.aload_n 0, 1) := by decide +kernel
theorem dX10_kinds_21 : decode cX10_kinds 21 = .ok (.invokevirtual 338, 3) := by decide +kernel
theorem dX10_kinds_24 : decode cX10_kinds 24 = .ok (.aload_n 0, 1) := by decide +kernel
theorem dX10_kinds_25 : decode cX10_kinds 25 = .ok (.getfield 104, 3) := by decide +kernel
theorem dX10_kinds_28 : decode cX10_kinds 28 = .ok (.iload_n 1, 1) := by decide +kernel
theorem dX10_kinds_29 : decode cX10_kinds 29 = .ok (.iload_n 3, 1) := by decide +kernel
theorem dX10_kinds_30 : decode cX10_kinds 30 = .ok (.iastore, 1) := by decide +kernel
theorem dX10_kinds_31 : decode cX10_kinds 31 = .ok (.iconst 1, 1) := by decide +kernel
theorem dX10_kinds_32 : decode cX10_kinds 32 = .ok (.istore 4, 2) := by decide +kernel
theorem dX10_kinds_34 : decode cX10_kinds 34 = .ok (.iconst 0, 1) := by decide +kernel
theorem dX10_kinds_35 : decode cX10_kinds 35 = .ok (.istore 5, 2) := by decide +kernel
theorem dX10_kinds_37 : decode cX10_kinds 37 = .ok (.iload 5, 2) := by decide +kernel
theorem dX10_kinds_39 : decode cX10_kinds 39 = .ok (.aload_n 0, 1) := by decide +kernel
theorem dX10_kinds_40 : decode cX10_kinds 40 = .ok (.getfield 150, 3) := by decide +kernel
theorem dX10_kinds_43 : decode cX10_kinds 43 = .ok (.if_icmp .ge 41, 3) := by decide +kernel
theorem dX10_kinds_46 : decode cX10_kinds 46 = .ok (.iload 4, 2) := by decide +kernel
theorem dX10_kinds_48 : decode cX10_kinds 48 = .ok (.ifCond .eq 36, 3) := by decide +kernel
theorem dX10_kinds_51 : decode cX10_kinds 51 = .ok (.aload_n 0, 1) := by decide +kernel
theorem dX10_kinds_52 : decode cX10_kinds 52 = .ok (.invokevirtual 344, 3) := by decide +kernel
theorem dX10_kinds_55 : decode cX10_kinds 55 = .ok (.aload_n 0, 1) := by decide +kernel
theorem dX10_kinds_56 : decode cX10_kinds 56 = .ok (.getfield 101, 3) := by decide +kernel
theorem dX10_kinds_59 : decode cX10_kinds 59 = .ok (.iload_n 1, 1) := by decide +kernel
theorem dX10_kinds_60 : decode cX10_kinds 60 = .ok (.iaload, 1) := by decide +kernel
theorem dX10_kinds_61 : decode cX10_kinds 61 = .ok (.aload_n 0, 1) := by decide +kernel
theorem dX10_kinds_62 : decode cX10_kinds 62 = .ok (.getfield 153, 3) := by decide +kernel
theorem dX10_kinds_65 : decode cX10_kinds 65 = .ok (.iload 5, 2) := by decide +kernel
theorem dX10_kinds_67 : decode cX10_kinds 67 = .ok (.iaload, 1) := by decide +kernel
theorem dX10_kinds_68 : decode cX10_kinds 68 = .ok (.if_icmp .ne 7, 3) := by decide +kernel
theorem dX10_kinds_71 : decode cX10_kinds 71 = .ok (.iconst 1, 1) := by decide +kernel
theorem dX10_kinds_72 : decode cX10_kinds 72 = .ok (.goto 4, 3) := by decide +kernel
theorem dX10_kinds_75 : decode cX10_kinds 75 = .ok (.iconst 0, 1) := by decide +kernel
theorem dX10_kinds_76 : decode cX10_kinds 76 = .ok (.istore 4, 2) := by decide +kernel
theorem dX10_kinds_78 : decode cX10_kinds 78 = .ok (.iinc 5 1, 3) := by decide +kernel
theorem dX10_kinds_81 : decode cX10_kinds 81 = .ok (.goto (-44), 3) := by decide +kernel
theorem dX10_kinds_84 : decode cX10_kinds 84 = .ok (.iload_n 2, 1) := by decide +kernel
theorem dX10_kinds_85 : decode cX10_kinds 85 = .ok (.iload 4, 2) := by decide +kernel
theorem dX10_kinds_87 : decode cX10_kinds 87 = .ok (.ifCond .eq 9, 3) := by decide +kernel
theorem dX10_kinds_90 : decode cX10_kinds 90 = .ok (.iconst 1, 1) := by decide +kernel
theorem dX10_kinds_91 : decode cX10_kinds 91 = .ok (.iload_n 3, 1) := by decide +kernel
theorem dX10_kinds_92 : decode cX10_kinds 92 = .ok (.ishl, 1) := by decide +kernel
theorem dX10_kinds_93 : decode cX10_kinds 93 = .ok (.goto 4, 3) := by decide +kernel
theorem dX10_kinds_96 : decode cX10_kinds 96 = .ok (.iconst 0, 1) := by decide +kernel
theorem dX10_kinds_97 : decode cX10_kinds 97 = .ok (.ior, 1) := by decide +kernel
theorem dX10_kinds_98 : decode cX10_kinds 98 = .ok (.istore_n 2, 1) := by decide +kernel
theorem dX10_kinds_99 : decode cX10_kinds 99 = .ok (.iinc 3 1, 3) := by decide +kernel
theorem dX10_kinds_102 : decode cX10_kinds 102 = .ok (.goto (-88), 3) := by decide +kernel
theorem dX10_kinds_105 : decode cX10_kinds 105 = .ok (.iload_n 2, 1) := by decide +kernel
theorem dX10_kinds_106 : decode cX10_kinds 106 = .ok (.ireturn, 1) := by decide +kernel
theorem dX10_judge_0 : decode cX10_judge 0 = .ok (.aload_n 0, 1) := by decide +kernel
theorem dX10_judge_1 : decode cX10_judge 1 = .ok (.iload_n 1, 1) := by decide +kernel
theorem dX10_judge_2 : decode cX10_judge 2 = .ok (.invokevirtual 382, 3) := by decide +kernel
theorem dX10_judge_5 : decode cX10_judge 5 = .ok (.ifCond .ne 5, 3) := by decide +kernel
theorem dX10_judge_8 : decode cX10_judge 8 = .ok (.iconst (-1), 1) := by decide +kernel
theorem dX10_judge_9 : decode cX10_judge 9 = .ok (.ireturn, 1) := by decide +kernel
theorem dX10_judge_10 : decode cX10_judge 10 = .ok (.aload_n 0, 1) := by decide +kernel
theorem dX10_judge_11 : decode cX10_judge 11 = .ok (.iload_n 3, 1) := by decide +kernel
theorem dX10_judge_12 : decode cX10_judge 12 = .ok (.iconst 0, 1) := by decide +kernel
theorem dX10_judge_13 : decode cX10_judge 13 = .ok (.bipush 60, 2) := by decide +kernel
theorem dX10_judge_15 : decode cX10_judge 15 = .ok (.invokevirtual 231, 3) := by decide +kernel
theorem dX10_judge_18 : decode cX10_judge 18 = .ok (.ifCond .ne 6, 3) := by decide +kernel
theorem dX10_judge_21 : decode cX10_judge 21 = .ok (.bipush (-2), 2) := by decide +kernel
theorem dX10_judge_23 : decode cX10_judge 23 = .ok (.ireturn, 1) := by decide +kernel
theorem dX10_judge_24 : decode cX10_judge 24 = .ok (.aload_n 0, 1) := by decide +kernel
theorem dX10_judge_25 : decode cX10_judge 25 = .ok (.getfield 211, 3) := by decide +kernel
theorem dX10_judge_28 : decode cX10_judge 28 = .ok (.iload_n 1, 1) := by decide +kernel
theorem dX10_judge_29 : decode cX10_judge 29 = .ok (.iaload, 1) := by decide +kernel
theorem dX10_judge_30 : decode cX10_judge 30 = .ok (.ifCond .le 6, 3) := by decide +kernel
theorem dX10_judge_33 : decode cX10_judge 33 = .ok (.bipush (-12), 2) := by decide +kernel
theorem dX10_judge_35 : decode cX10_judge 35 = .ok (.ireturn, 1) := by decide +kernel
theorem dX10_judge_36 : decode cX10_judge 36 = .ok (.aload_n 0, 1) := by decide +kernel
theorem dX10_judge_37 : decode cX10_judge 37 = .ok (.invokevirtual 338, 3) := by decide +kernel
theorem dX10_judge_40 : decode cX10_judge 40 = .ok (.iconst 0, 1) := by decide +kernel
theorem dX10_judge_41 : decode cX10_judge 41 = .ok (.istore 4, 2) := by decide +kernel
theorem dX10_judge_43 : decode cX10_judge 43 = .ok (.iload 4, 2) := by decide +kernel
theorem dX10_judge_45 : decode cX10_judge 45 = .ok (.iload_n 3, 1) := by decide +kernel
theorem dX10_judge_46 : decode cX10_judge 46 = .ok (.if_icmp .ge 13, 3) := by decide +kernel
theorem dX10_judge_49 : decode cX10_judge 49 = .ok (.aload_n 0, 1) := by decide +kernel
theorem dX10_judge_50 : decode cX10_judge 50 = .ok (.invokevirtual 344, 3) := by decide +kernel
theorem dX10_judge_53 : decode cX10_judge 53 = .ok (.iinc 4 1, 3) := by decide +kernel
theorem dX10_judge_56 : decode cX10_judge 56 = .ok (.goto (-13), 3) := by decide +kernel
theorem dX10_judge_59 : decode cX10_judge 59 = .ok (.iconst 0, 1) := by decide +kernel
theorem dX10_judge_60 : decode cX10_judge 60 = .ok (.istore 4, 2) := by decide +kernel
theorem dX10_judge_62 : decode cX10_judge 62 = .ok (.iload 4, 2) := by decide +kernel
theorem dX10_judge_64 : decode cX10_judge 64 = .ok (.aload_n 0, 1) := by decide +kernel
theorem dX10_judge_65 : decode cX10_judge 65 = .ok (.getfield 7, 3) := by decide +kernel
theorem dX10_judge_68 : decode cX10_judge 68 = .ok (.if_icmp .ge 72, 3) := by decide +kernel
theorem dX10_judge_71 : decode cX10_judge 71 = .ok (.aload_n 0, 1) := by decide +kernel
theorem dX10_judge_72 : decode cX10_judge 72 = .ok (.getfield 211, 3) := by decide +kernel
theorem dX10_judge_75 : decode cX10_judge 75 = .ok (.iload_n 1, 1) := by decide +kernel
theorem dX10_judge_76 : decode cX10_judge 76 = .ok (.iaload, 1) := by decide +kernel
theorem dX10_judge_77 : decode cX10_judge 77 = .ok (.ifCond .lt 22, 3) := by decide +kernel
theorem dX10_judge_80 : decode cX10_judge 80 = .ok (.iload_n 2, 1) := by decide +kernel
theorem dX10_judge_81 : decode cX10_judge 81 = .ok (.ifCond .lt 18, 3) := by decide +kernel
theorem dX10_judge_84 : decode cX10_judge 84 = .ok (.iload_n 2, 1) := by decide +kernel
theorem dX10_judge_85 : decode cX10_judge 85 = .ok (.aload_n 0, 1) := by decide +kernel
theorem dX10_judge_86 : decode cX10_judge 86 = .ok (.getfield 214, 3) := by decide +kernel
theorem dX10_judge_89 : decode cX10_judge 89 = .ok (.iload_n 1, 1) := by decide +kernel
theorem dX10_judge_90 : decode cX10_judge 90 = .ok (.iaload, 1) := by decide +kernel
theorem dX10_judge_91 : decode cX10_judge 91 = .ok (.iload 4, 2) := by decide +kernel
theorem dX10_judge_93 : decode cX10_judge 93 = .ok (.isub, 1) := by decide +kernel
theorem dX10_judge_94 : decode cX10_judge 94 = .ok (.iconst 1, 1) := by decide +kernel
theorem dX10_judge_95 : decode cX10_judge 95 = .ok (.isub, 1) := by decide +kernel
theorem dX10_judge_96 : decode cX10_judge 96 = .ok (.if_icmp .le 9, 3) := by decide +kernel
theorem dX10_judge_99 : decode cX10_judge 99 = .ok (.bipush 100, 2) := by decide +kernel
theorem dX10_judge_101 : decode cX10_judge 101 = .ok (.iload 4, 2) := by decide +kernel
theorem dX10_judge_103 : decode cX10_judge 103 = .ok (.iadd, 1) := by decide +kernel
theorem dX10_judge_104 : decode cX10_judge 104 = .ok (.ireturn, 1) := by decide +kernel
theorem dX10_judge_105 : decode cX10_judge 105 = .ok (.aload_n 0, 1) := by decide +kernel
theorem dX10_judge_106 : decode cX10_judge 106 = .ok (.getfield 217, 3) := by decide +kernel
theorem dX10_judge_109 : decode cX10_judge 109 = .ok (.bipush 60, 2) := by decide +kernel
theorem dX10_judge_111 : decode cX10_judge 111 = .ok (.iload_n 1, 1) := by decide +kernel
theorem dX10_judge_112 : decode cX10_judge 112 = .ok (.imul, 1) := by decide +kernel
theorem dX10_judge_113 : decode cX10_judge 113 = .ok (.iload_n 2, 1) := by decide +kernel
theorem dX10_judge_114 : decode cX10_judge 114 = .ok (.iadd, 1) := by decide +kernel
theorem dX10_judge_115 : decode cX10_judge 115 = .ok (.iload 4, 2) := by decide +kernel
theorem dX10_judge_117 : decode cX10_judge 117 = .ok (.iadd, 1) := by decide +kernel
theorem dX10_judge_118 : decode cX10_judge 118 = .ok (.laload, 1) := by decide +kernel
theorem dX10_judge_119 : decode cX10_judge 119 = .ok (.aload_n 0, 1) := by decide +kernel
theorem dX10_judge_120 : decode cX10_judge 120 = .ok (.getfield 101, 3) := by decide +kernel
theorem dX10_judge_123 : decode cX10_judge 123 = .ok (.iload 4, 2) := by decide +kernel
theorem dX10_judge_125 : decode cX10_judge 125 = .ok (.iaload, 1) := by decide +kernel
theorem dX10_judge_126 : decode cX10_judge 126 = .ok (.i2l, 1) := by decide +kernel
theorem dX10_judge_127 : decode cX10_judge 127 = .ok (.lcmp, 1) := by decide +kernel
theorem dX10_judge_128 : decode cX10_judge 128 = .ok (.ifCond .eq 6, 3) := by decide +kernel
theorem dX10_judge_131 : decode cX10_judge 131 = .ok (.iload 4, 2) := by decide +kernel
theorem dX10_judge_133 : decode cX10_judge 133 = .ok (.ireturn, 1) := by decide +kernel
theorem dX10_judge_134 : decode cX10_judge 134 = .ok (.iinc 4 1, 3) := by decide +kernel
theorem dX10_judge_137 : decode cX10_judge 137 = .ok (.goto (-75), 3) := by decide +kernel
theorem dX10_judge_140 : decode cX10_judge 140 = .ok (.bipush (-5), 2) := by decide +kernel
theorem dX10_judge_142 : decode cX10_judge 142 = .ok (.ireturn, 1) := by decide +kernel
theorem dX10_copy_0 : decode cX10_copy 0 = .ok (.iconst 0, 1) := by decide +kernel
theorem dX10_copy_1 : decode cX10_copy 1 = .ok (.istore_n 3, 1) := by decide +kernel
theorem dX10_copy_2 : decode cX10_copy 2 = .ok (.iload_n 3, 1) := by decide +kernel
theorem dX10_copy_3 : decode cX10_copy 3 = .ok (.aload_n 2, 1) := by decide +kernel
theorem dX10_copy_4 : decode cX10_copy 4 = .ok (.arraylength, 1) := by decide +kernel
theorem dX10_copy_5 : decode cX10_copy 5 = .ok (.if_icmp .ge 15, 3) := by decide +kernel
theorem dX10_copy_8 : decode cX10_copy 8 = .ok (.aload_n 2, 1) := by decide +kernel
theorem dX10_copy_9 : decode cX10_copy 9 = .ok (.iload_n 3, 1) := by decide +kernel
theorem dX10_copy_10 : decode cX10_copy 10 = .ok (.aload_n 1, 1) := by decide +kernel
theorem dX10_copy_11 : decode cX10_copy 11 = .ok (.iload_n 3, 1) := by decide +kernel
theorem dX10_copy_12 : decode cX10_copy 12 = .ok (.iaload, 1) := by decide +kernel
theorem dX10_copy_13 : decode cX10_copy 13 = .ok (.iastore, 1) := by decide +kernel
theorem dX10_copy_14 : decode cX10_copy 14 = .ok (.iinc 3 1, 3) := by decide +kernel
theorem dX10_copy_17 : decode cX10_copy 17 = .ok (.goto (-15), 3) := by decide +kernel
theorem dX10_copy_20 : decode cX10_copy 20 = .ok (.return_, 1) := by decide +kernel
theorem dX10_image_0 : decode cX10_image 0 = .ok (.aload_n 0, 1) := by decide +kernel
theorem dX10_image_1 : decode cX10_image 1 = .ok (.iconst 1, 1) := by decide +kernel
theorem dX10_image_2 : decode cX10_image 2 = .ok (.putfield 156, 3) := by decide +kernel
theorem dX10_image_5 : decode cX10_image 5 = .ok (.aload_n 0, 1) := by decide +kernel
theorem dX10_image_6 : decode cX10_image 6 = .ok (.aload_n 0, 1) := by decide +kernel
theorem dX10_image_7 : decode cX10_image 7 = .ok (.getfield 44, 3) := by decide +kernel
theorem dX10_image_10 : decode cX10_image 10 = .ok (.putfield 160, 3) := by decide +kernel
theorem dX10_image_13 : decode cX10_image 13 = .ok (.aload_n 0, 1) := by decide +kernel
theorem dX10_image_14 : decode cX10_image 14 = .ok (.aload_n 0, 1) := by decide +kernel
theorem dX10_image_15 : decode cX10_image 15 = .ok (.getfield 7, 3) := by decide +kernel
theorem dX10_image_18 : decode cX10_image 18 = .ok (.putfield 163, 3) := by decide +kernel
theorem dX10_image_21 : decode cX10_image 21 = .ok (.aload_n 0, 1) := by decide +kernel
theorem dX10_image_22 : decode cX10_image 22 = .ok (.aload_n 0, 1) := by decide +kernel
theorem dX10_image_23 : decode cX10_image 23 = .ok (.getfield 13, 3) := by decide +kernel
theorem dX10_image_26 : decode cX10_image 26 = .ok (.putfield 166, 3) := by decide +kernel
theorem dX10_image_29 : decode cX10_image 29 = .ok (.aload_n 0, 1) := by decide +kernel
theorem dX10_image_30 : decode cX10_image 30 = .ok (.aload_n 0, 1) := by decide +kernel
theorem dX10_image_31 : decode cX10_image 31 = .ok (.getfield 16, 3) := by decide +kernel
theorem dX10_image_34 : decode cX10_image 34 = .ok (.putfield 169, 3) := by decide +kernel
theorem dX10_image_37 : decode cX10_image 37 = .ok (.aload_n 0, 1) := by decide +kernel
theorem dX10_image_38 : decode cX10_image 38 = .ok (.aload_n 0, 1) := by decide +kernel
theorem dX10_image_39 : decode cX10_image 39 = .ok (.getfield 19, 3) := by decide +kernel
theorem dX10_image_42 : decode cX10_image 42 = .ok (.putfield 172, 3) := by decide +kernel
theorem dX10_image_45 : decode cX10_image 45 = .ok (.aload_n 0, 1) := by decide +kernel
theorem dX10_image_46 : decode cX10_image 46 = .ok (.aload_n 0, 1) := by decide +kernel
theorem dX10_image_47 : decode cX10_image 47 = .ok (.getfield 126, 3) := by decide +kernel
theorem dX10_image_50 : decode cX10_image 50 = .ok (.putfield 175, 3) := by decide +kernel
theorem dX10_image_53 : decode cX10_image 53 = .ok (.aload_n 0, 1) := by decide +kernel
theorem dX10_image_54 : decode cX10_image 54 = .ok (.aload_n 0, 1) := by decide +kernel
theorem dX10_image_55 : decode cX10_image 55 = .ok (.getfield 150, 3) := by decide +kernel
theorem dX10_image_58 : decode cX10_image 58 = .ok (.putfield 178, 3) := by decide +kernel
theorem dX10_image_61 : decode cX10_image 61 = .ok (.aload_n 0, 1) := by decide +kernel
theorem dX10_image_62 : decode cX10_image 62 = .ok (.aload_n 0, 1) := by decide +kernel
theorem dX10_image_63 : decode cX10_image 63 = .ok (.getfield 22, 3) := by decide +kernel
theorem dX10_image_66 : decode cX10_image 66 = .ok (.aload_n 0, 1) := by decide +kernel
theorem dX10_image_67 : decode cX10_image 67 = .ok (.getfield 181, 3) := by decide +kernel
theorem dX10_image_70 : decode cX10_image 70 = .ok (.invokevirtual 385, 3) := by decide +kernel
theorem dX10_image_73 : decode cX10_image 73 = .ok (.aload_n 0, 1) := by decide +kernel
theorem dX10_image_74 : decode cX10_image 74 = .ok (.aload_n 0, 1) := by decide +kernel
theorem dX10_image_75 : decode cX10_image 75 = .ok (.getfield 26, 3) := by decide +kernel
theorem dX10_image_78 : decode cX10_image 78 = .ok (.aload_n 0, 1) := by decide +kernel
theorem dX10_image_79 : decode cX10_image 79 = .ok (.getfield 184, 3) := by decide +kernel
theorem dX10_image_82 : decode cX10_image 82 = .ok (.invokevirtual 385, 3) := by decide +kernel
theorem dX10_image_85 : decode cX10_image 85 = .ok (.aload_n 0, 1) := by decide +kernel
theorem dX10_image_86 : decode cX10_image 86 = .ok (.aload_n 0, 1) := by decide +kernel
theorem dX10_image_87 : decode cX10_image 87 = .ok (.getfield 29, 3) := by decide +kernel
theorem dX10_image_90 : decode cX10_image 90 = .ok (.aload_n 0, 1) := by decide +kernel
theorem dX10_image_91 : decode cX10_image 91 = .ok (.getfield 187, 3) := by decide +kernel
theorem dX10_image_94 : decode cX10_image 94 = .ok (.invokevirtual 385, 3) := by decide +kernel
theorem dX10_image_97 : decode cX10_image 97 = .ok (.aload_n 0, 1) := by decide +kernel
theorem dX10_image_98 : decode cX10_image 98 = .ok (.aload_n 0, 1) := by decide +kernel
theorem dX10_image_99 : decode cX10_image 99 = .ok (.getfield 32, 3) := by decide +kernel
theorem dX10_image_102 : decode cX10_image 102 = .ok (.aload_n 0, 1) := by decide +kernel
theorem dX10_image_103 : decode cX10_image 103 = .ok (.getfield 190, 3) := by decide +kernel
theorem dX10_image_106 : decode cX10_image 106 = .ok (.invokevirtual 385, 3) := by decide +kernel
theorem dX10_image_109 : decode cX10_image 109 = .ok (.aload_n 0, 1) := by decide +kernel
theorem dX10_image_110 : decode cX10_image 110 = .ok (.aload_n 0, 1) := by decide +kernel
theorem dX10_image_111 : decode cX10_image 111 = .ok (.getfield 35, 3) := by decide +kernel
theorem dX10_image_114 : decode cX10_image 114 = .ok (.aload_n 0, 1) := by decide +kernel
theorem dX10_image_115 : decode cX10_image 115 = .ok (.getfield 193, 3) := by decide +kernel
theorem dX10_image_118 : decode cX10_image 118 = .ok (.invokevirtual 385, 3) := by decide +kernel
theorem dX10_image_121 : decode cX10_image 121 = .ok (.aload_n 0, 1) := by decide +kernel
theorem dX10_image_122 : decode cX10_image 122 = .ok (.aload_n 0, 1) := by decide +kernel
theorem dX10_image_123 : decode cX10_image 123 = .ok (.getfield 38, 3) := by decide +kernel
theorem dX10_image_126 : decode cX10_image 126 = .ok (.aload_n 0, 1) := by decide +kernel
theorem dX10_image_127 : decode cX10_image 127 = .ok (.getfield 196, 3) := by decide +kernel
theorem dX10_image_130 : decode cX10_image 130 = .ok (.invokevirtual 385, 3) := by decide +kernel
theorem dX10_image_133 : decode cX10_image 133 = .ok (.aload_n 0, 1) := by decide +kernel
theorem dX10_image_134 : decode cX10_image 134 = .ok (.aload_n 0, 1) := by decide +kernel
theorem dX10_image_135 : decode cX10_image 135 = .ok (.getfield 129, 3) := by decide +kernel
theorem dX10_image_138 : decode cX10_image 138 = .ok (.aload_n 0, 1) := by decide +kernel
theorem dX10_image_139 : decode cX10_image 139 = .ok (.getfield 199, 3) := by decide +kernel
theorem dX10_image_142 : decode cX10_image 142 = .ok (.invokevirtual 385, 3) := by decide +kernel
theorem dX10_image_145 : decode cX10_image 145 = .ok (.aload_n 0, 1) := by decide +kernel
theorem dX10_image_146 : decode cX10_image 146 = .ok (.aload_n 0, 1) := by decide +kernel
theorem dX10_image_147 : decode cX10_image 147 = .ok (.getfield 153, 3) := by decide +kernel
theorem dX10_image_150 : decode cX10_image 150 = .ok (.aload_n 0, 1) := by decide +kernel
theorem dX10_image_151 : decode cX10_image 151 = .ok (.getfield 202, 3) := by decide +kernel
theorem dX10_image_154 : decode cX10_image 154 = .ok (.invokevirtual 385, 3) := by decide +kernel
theorem dX10_image_157 : decode cX10_image 157 = .ok (.aload_n 0, 1) := by decide +kernel
theorem dX10_image_158 : decode cX10_image 158 = .ok (.getfield 7, 3) := by decide +kernel
theorem dX10_image_161 : decode cX10_image 161 = .ok (.ireturn, 1) := by decide +kernel
theorem dX10_undo_0 : decode cX10_undo 0 = .ok (.aload_n 0, 1) := by decide +kernel
theorem dX10_undo_1 : decode cX10_undo 1 = .ok (.getfield 156, 3) := by decide +kernel
theorem dX10_undo_4 : decode cX10_undo 4 = .ok (.ifCond .ne 6, 3) := by decide +kernel
theorem dX10_undo_7 : decode cX10_undo 7 = .ok (.bipush (-3), 2) := by decide +kernel
theorem dX10_undo_9 : decode cX10_undo 9 = .ok (.ireturn, 1) := by decide +kernel
theorem dX10_undo_10 : decode cX10_undo 10 = .ok (.aload_n 0, 1) := by decide +kernel
theorem dX10_undo_11 : decode cX10_undo 11 = .ok (.aload_n 0, 1) := by decide +kernel
theorem dX10_undo_12 : decode cX10_undo 12 = .ok (.getfield 160, 3) := by decide +kernel
theorem dX10_undo_15 : decode cX10_undo 15 = .ok (.putfield 44, 3) := by decide +kernel
theorem dX10_undo_18 : decode cX10_undo 18 = .ok (.aload_n 0, 1) := by decide +kernel
theorem dX10_undo_19 : decode cX10_undo 19 = .ok (.aload_n 0, 1) := by decide +kernel
theorem dX10_undo_20 : decode cX10_undo 20 = .ok (.getfield 163, 3) := by decide +kernel
theorem dX10_undo_23 : decode cX10_undo 23 = .ok (.putfield 7, 3) := by decide +kernel
theorem dX10_undo_26 : decode cX10_undo 26 = .ok (.aload_n 0, 1) := by decide +kernel
theorem dX10_undo_27 : decode cX10_undo 27 = .ok (.aload_n 0, 1) := by decide +kernel
theorem dX10_undo_28 : decode cX10_undo 28 = .ok (.getfield 166, 3) := by decide +kernel
theorem dX10_undo_31 : decode cX10_undo 31 = .ok (.putfield 13, 3) := by decide +kernel
theorem dX10_undo_34 : decode cX10_undo 34 = .ok (.aload_n 0, 1) := by decide +kernel
theorem dX10_undo_35 : decode cX10_undo 35 = .ok (.aload_n 0, 1) := by decide +kernel
theorem dX10_undo_36 : decode cX10_undo 36 = .ok (.getfield 169, 3) := by decide +kernel
theorem dX10_undo_39 : decode cX10_undo 39 = .ok (.putfield 16, 3) := by decide +kernel
theorem dX10_undo_42 : decode cX10_undo 42 = .ok (.aload_n 0, 1) := by decide +kernel
theorem dX10_undo_43 : decode cX10_undo 43 = .ok (.aload_n 0, 1) := by decide +kernel
theorem dX10_undo_44 : decode cX10_undo 44 = .ok (.getfield 172, 3) := by decide +kernel
theorem dX10_undo_47 : decode cX10_undo 47 = .ok (.putfield 19, 3) := by decide +kernel
theorem dX10_undo_50 : decode cX10_undo 50 = .ok (.aload_n 0, 1) := by decide +kernel
theorem dX10_undo_51 : decode cX10_undo 51 = .ok (.aload_n 0, 1) := by decide +kernel
theorem dX10_undo_52 : decode cX10_undo 52 = .ok (.getfield 175, 3) := by decide +kernel
theorem dX10_undo_55 : decode cX10_undo 55 = .ok (.putfield 126, 3) := by decide +kernel
theorem dX10_undo_58 : decode cX10_undo 58 = .ok (.aload_n 0, 1) := by decide +kernel
theorem dX10_undo_59 : decode cX10_undo 59 = .ok (.aload_n 0, 1) := by decide +kernel
theorem dX10_undo_60 : decode cX10_undo 60 = .ok (.getfield 178, 3) := by decide +kernel
theorem dX10_undo_63 : decode cX10_undo 63 = .ok (.putfield 150, 3) := by decide +kernel
theorem dX10_undo_66 : decode cX10_undo 66 = .ok (.aload_n 0, 1) := by decide +kernel
theorem dX10_undo_67 : decode cX10_undo 67 = .ok (.aload_n 0, 1) := by decide +kernel
theorem dX10_undo_68 : decode cX10_undo 68 = .ok (.getfield 181, 3) := by decide +kernel
theorem dX10_undo_71 : decode cX10_undo 71 = .ok (.aload_n 0, 1) := by decide +kernel
theorem dX10_undo_72 : decode cX10_undo 72 = .ok (.getfield 22, 3) := by decide +kernel
theorem dX10_undo_75 : decode cX10_undo 75 = .ok (.invokevirtual 385, 3) := by decide +kernel
theorem dX10_undo_78 : decode cX10_undo 78 = .ok (.aload_n 0, 1) := by decide +kernel
theorem dX10_undo_79 : decode cX10_undo 79 = .ok (.aload_n 0, 1) := by decide +kernel
theorem dX10_undo_80 : decode cX10_undo 80 = .ok (.getfield 184, 3) := by decide +kernel
theorem dX10_undo_83 : decode cX10_undo 83 = .ok (.aload_n 0, 1) := by decide +kernel
theorem dX10_undo_84 : decode cX10_undo 84 = .ok (.getfield 26, 3) := by decide +kernel
theorem dX10_undo_87 : decode cX10_undo 87 = .ok (.invokevirtual 385, 3) := by decide +kernel
theorem dX10_undo_90 : decode cX10_undo 90 = .ok (.aload_n 0, 1) := by decide +kernel
theorem dX10_undo_91 : decode cX10_undo 91 = .ok (.aload_n 0, 1) := by decide +kernel
theorem dX10_undo_92 : decode cX10_undo 92 = .ok (.getfield 187, 3) := by decide +kernel
theorem dX10_undo_95 : decode cX10_undo 95 = .ok (.aload_n 0, 1) := by decide +kernel
theorem dX10_undo_96 : decode cX10_undo 96 = .ok (.getfield 29, 3) := by decide +kernel
theorem dX10_undo_99 : decode cX10_undo 99 = .ok (.invokevirtual 385, 3) := by decide +kernel
theorem dX10_undo_102 : decode cX10_undo 102 = .ok (.aload_n 0, 1) := by decide +kernel
theorem dX10_undo_103 : decode cX10_undo 103 = .ok (.aload_n 0, 1) := by decide +kernel
theorem dX10_undo_104 : decode cX10_undo 104 = .ok (.getfield 190, 3) := by decide +kernel
theorem dX10_undo_107 : decode cX10_undo 107 = .ok (.aload_n 0, 1) := by decide +kernel
theorem dX10_undo_108 : decode cX10_undo 108 = .ok (.getfield 32, 3) := by decide +kernel
theorem dX10_undo_111 : decode cX10_undo 111 = .ok (.invokevirtual 385, 3) := by decide +kernel
theorem dX10_undo_114 : decode cX10_undo 114 = .ok (.aload_n 0, 1) := by decide +kernel
theorem dX10_undo_115 : decode cX10_undo 115 = .ok (.aload_n 0, 1) := by decide +kernel
theorem dX10_undo_116 : decode cX10_undo 116 = .ok (.getfield 193, 3) := by decide +kernel
theorem dX10_undo_119 : decode cX10_undo 119 = .ok (.aload_n 0, 1) := by decide +kernel
theorem dX10_undo_120 : decode cX10_undo 120 = .ok (.getfield 35, 3) := by decide +kernel
theorem dX10_undo_123 : decode cX10_undo 123 = .ok (.invokevirtual 385, 3) := by decide +kernel
theorem dX10_undo_126 : decode cX10_undo 126 = .ok (.aload_n 0, 1) := by decide +kernel
theorem dX10_undo_127 : decode cX10_undo 127 = .ok (.aload_n 0, 1) := by decide +kernel
theorem dX10_undo_128 : decode cX10_undo 128 = .ok (.getfield 196, 3) := by decide +kernel
theorem dX10_undo_131 : decode cX10_undo 131 = .ok (.aload_n 0, 1) := by decide +kernel
theorem dX10_undo_132 : decode cX10_undo 132 = .ok (.getfield 38, 3) := by decide +kernel
theorem dX10_undo_135 : decode cX10_undo 135 = .ok (.invokevirtual 385, 3) := by decide +kernel
theorem dX10_undo_138 : decode cX10_undo 138 = .ok (.aload_n 0, 1) := by decide +kernel
theorem dX10_undo_139 : decode cX10_undo 139 = .ok (.aload_n 0, 1) := by decide +kernel
theorem dX10_undo_140 : decode cX10_undo 140 = .ok (.getfield 199, 3) := by decide +kernel
theorem dX10_undo_143 : decode cX10_undo 143 = .ok (.aload_n 0, 1) := by decide +kernel
theorem dX10_undo_144 : decode cX10_undo 144 = .ok (.getfield 129, 3) := by decide +kernel
theorem dX10_undo_147 : decode cX10_undo 147 = .ok (.invokevirtual 385, 3) := by decide +kernel
theorem dX10_undo_150 : decode cX10_undo 150 = .ok (.aload_n 0, 1) := by decide +kernel
theorem dX10_undo_151 : decode cX10_undo 151 = .ok (.aload_n 0, 1) := by decide +kernel
theorem dX10_undo_152 : decode cX10_undo 152 = .ok (.getfield 202, 3) := by decide +kernel
theorem dX10_undo_155 : decode cX10_undo 155 = .ok (.aload_n 0, 1) := by decide +kernel
theorem dX10_undo_156 : decode cX10_undo 156 = .ok (.getfield 153, 3) := by decide +kernel
theorem dX10_undo_159 : decode cX10_undo 159 = .ok (.invokevirtual 385, 3) := by decide +kernel
theorem dX10_undo_162 : decode cX10_undo 162 = .ok (.aload_n 0, 1) := by decide +kernel
theorem dX10_undo_163 : decode cX10_undo 163 = .ok (.getfield 7, 3) := by decide +kernel
theorem dX10_undo_166 : decode cX10_undo 166 = .ok (.ireturn, 1) := by decide +kernel
theorem dX10_body_0 : decode cX10_body 0 = .ok (.aload_n 0, 1) := by decide +kernel
theorem dX10_body_1 : decode cX10_body 1 = .ok (.getfield 205, 3) := by decide +kernel
theorem dX10_body_4 : decode cX10_body 4 = .ok (.bipush 20, 2) := by decide +kernel
theorem dX10_body_6 : decode cX10_body 6 = .ok (.if_icmp .ge 13, 3) := by decide +kernel
theorem dX10_body_9 : decode cX10_body 9 = .ok (.aload_n 0, 1) := by decide +kernel
theorem dX10_body_10 : decode cX10_body 10 = .ok (.getfield 208, 3) := by decide +kernel
theorem dX10_body_13 : decode cX10_body 13 = .ok (.aload_n 0, 1) := by decide +kernel
theorem dX10_body_14 : decode cX10_body 14 = .ok (.getfield 205, 3) := by decide +kernel
theorem dX10_body_17 : decode cX10_body 17 = .ok (.iload_n 1, 1) := by decide +kernel
theorem dX10_body_18 : decode cX10_body 18 = .ok (.iastore, 1) := by decide +kernel
theorem dX10_body_19 : decode cX10_body 19 = .ok (.aload_n 0, 1) := by decide +kernel
theorem dX10_body_20 : decode cX10_body 20 = .ok (.dup, 1) := by decide +kernel
theorem dX10_body_21 : decode cX10_body 21 = .ok (.getfield 205, 3) := by decide +kernel
theorem dX10_body_24 : decode cX10_body 24 = .ok (.iconst 1, 1) := by decide +kernel
theorem dX10_body_25 : decode cX10_body 25 = .ok (.iadd, 1) := by decide +kernel
theorem dX10_body_26 : decode cX10_body 26 = .ok (.putfield 205, 3) := by decide +kernel
theorem dX10_body_29 : decode cX10_body 29 = .ok (.return_, 1) := by decide +kernel
theorem dX10_moveYields_0 : decode cX10_moveYields 0 = .ok (.aload_n 0, 1) := by decide +kernel
theorem dX10_moveYields_1 : decode cX10_moveYields 1 = .ok (.bipush 10, 2) := by decide +kernel
theorem dX10_moveYields_3 : decode cX10_moveYields 3 = .ok (.invokevirtual 389, 3) := by decide +kernel
theorem dX10_moveYields_6 : decode cX10_moveYields 6 = .ok (.iload_n 2, 1) := by decide +kernel
theorem dX10_moveYields_7 : decode cX10_moveYields 7 = .ok (.iload_n 1, 1) := by decide +kernel
theorem dX10_moveYields_8 : decode cX10_moveYields 8 = .ok (.iadd, 1) := by decide +kernel
theorem dX10_moveYields_9 : decode cX10_moveYields 9 = .ok (.ireturn, 1) := by decide +kernel
theorem dX10_comingYields_0 : decode cX10_comingYields 0 = .ok (.aload_n 0, 1) := by decide +kernel
theorem dX10_comingYields_1 : decode cX10_comingYields 1 = .ok (.bipush 30, 2) := by decide +kernel
