theorem dX9_gone_152 : decode cX9_gone 152 = .ok (.iload_n 2, 1) := by decide +kernel
theorem dX9_gone_153 : decode cX9_gone 153 = .ok (.ireturn, 1) := by decide +kernel
theorem dX9_gone_154 : decode cX9_gone 154 = .ok (.iload_n 3, 1) := by decide +kernel
theorem dX9_gone_155 : decode cX9_gone 155 = .ok (.ireturn, 1) := by decide +kernel
theorem dX9_gone_156 : decode cX9_gone 156 = .ok (.aload_n 0, 1) := by decide +kernel
theorem dX9_gone_157 : decode cX9_gone 157 = .ok (.getfield 21, 3) := by decide +kernel
theorem dX9_gone_160 : decode cX9_gone 160 = .ok (.getfield 88, 3) := by decide +kernel
theorem dX9_gone_163 : decode cX9_gone 163 = .ok (.ireturn, 1) := by decide +kernel
theorem dX9_gone_164 : decode cX9_gone 164 = .ok (.aload_n 0, 1) := by decide +kernel
theorem dX9_gone_165 : decode cX9_gone 165 = .ok (.getfield 21, 3) := by decide +kernel
theorem dX9_gone_168 : decode cX9_gone 168 = .ok (.getfield 118, 3) := by decide +kernel
theorem dX9_gone_171 : decode cX9_gone 171 = .ok (.iload_n 1, 1) := by decide +kernel
theorem dX9_gone_172 : decode cX9_gone 172 = .ok (.invokevirtual 109, 3) := by decide +kernel
theorem dX9_gone_175 : decode cX9_gone 175 = .ok (.ireturn, 1) := by decide +kernel
theorem dX9_shortest_0 : decode cX9_shortest 0 = .ok (.aload_n 0, 1) := by decide +kernel
theorem dX9_shortest_1 : decode cX9_shortest 1 = .ok (.getfield 12, 3) := by decide +kernel
theorem dX9_shortest_4 : decode cX9_shortest 4 = .ok (.iload_n 1, 1) := by decide +kernel
theorem dX9_shortest_5 : decode cX9_shortest 5 = .ok (.invokevirtual 102, 3) := by decide +kernel
theorem dX9_shortest_8 : decode cX9_shortest 8 = .ok (.ifCond .eq 12, 3) := by decide +kernel
theorem dX9_shortest_11 : decode cX9_shortest 11 = .ok (.iload_n 2, 1) := by decide +kernel
theorem dX9_shortest_12 : decode cX9_shortest 12 = .ok (.iconst (-1), 1) := by decide +kernel
theorem dX9_shortest_13 : decode cX9_shortest 13 = .ok (.iconst 4, 1) := by decide +kernel
theorem dX9_shortest_14 : decode cX9_shortest 14 = .ok (.invokestatic 81, 3) := by decide +kernel
theorem dX9_shortest_17 : decode cX9_shortest 17 = .ok (.ifCond .ne 5, 3) := by decide +kernel
theorem dX9_shortest_20 : decode cX9_shortest 20 = .ok (.iconst (-1), 1) := by decide +kernel
theorem dX9_shortest_21 : decode cX9_shortest 21 = .ok (.ireturn, 1) := by decide +kernel
theorem dX9_shortest_22 : decode cX9_shortest 22 = .ok (.aload_n 0, 1) := by decide +kernel
theorem dX9_shortest_23 : decode cX9_shortest 23 = .ok (.getfield 21, 3) := by decide +kernel
theorem dX9_shortest_26 : decode cX9_shortest 26 = .ok (.aload_n 0, 1) := by decide +kernel
theorem dX9_shortest_27 : decode cX9_shortest 27 = .ok (.getfield 12, 3) := by decide +kernel
theorem dX9_shortest_30 : decode cX9_shortest 30 = .ok (.invokevirtual 197, 3) := by decide +kernel
theorem dX9_shortest_33 : decode cX9_shortest 33 = .ok (.aload_n 0, 1) := by decide +kernel
theorem dX9_shortest_34 : decode cX9_shortest 34 = .ok (.getfield 48, 3) := by decide +kernel
theorem dX9_shortest_37 : decode cX9_shortest 37 = .ok (.aload_n 0, 1) := by decide +kernel
theorem dX9_shortest_38 : decode cX9_shortest 38 = .ok (.getfield 21, 3) := by decide +kernel
theorem dX9_shortest_41 : decode cX9_shortest 41 = .ok (.iload_n 1, 1) := by decide +kernel
theorem dX9_shortest_42 : decode cX9_shortest 42 = .ok (.invokevirtual 216, 3) := by decide +kernel
theorem dX9_shortest_45 : decode cX9_shortest 45 = .ok (.iload_n 2, 1) := by decide +kernel
theorem dX9_shortest_46 : decode cX9_shortest 46 = .ok (.iconst (-1), 1) := by decide +kernel
theorem dX9_shortest_47 : decode cX9_shortest 47 = .ok (.if_icmp .ne 13, 3) := by decide +kernel
theorem dX9_shortest_50 : decode cX9_shortest 50 = .ok (.aload_n 0, 1) := by decide +kernel
theorem dX9_shortest_51 : decode cX9_shortest 51 = .ok (.getfield 48, 3) := by decide +kernel
theorem dX9_shortest_54 : decode cX9_shortest 54 = .ok (.getfield 220, 3) := by decide +kernel
theorem dX9_shortest_57 : decode cX9_shortest 57 = .ok (.goto 11, 3) := by decide +kernel
theorem dX9_shortest_60 : decode cX9_shortest 60 = .ok (.aload_n 0, 1) := by decide +kernel
theorem dX9_shortest_61 : decode cX9_shortest 61 = .ok (.getfield 48, 3) := by decide +kernel
theorem dX9_shortest_64 : decode cX9_shortest 64 = .ok (.iload_n 2, 1) := by decide +kernel
theorem dX9_shortest_65 : decode cX9_shortest 65 = .ok (.invokevirtual 223, 3) := by decide +kernel
theorem dX9_shortest_68 : decode cX9_shortest 68 = .ok (.ireturn, 1) := by decide +kernel
theorem dX9_seats_0 : decode cX9_seats 0 = .ok (.iload_n 1, 1) := by decide +kernel
theorem dX9_seats_1 : decode cX9_seats 1 = .ok (.iconst (-1), 1) := by decide +kernel
theorem dX9_seats_2 : decode cX9_seats 2 = .ok (.if_icmp .eq 18, 3) := by decide +kernel
theorem dX9_seats_5 : decode cX9_seats 5 = .ok (.aload_n 0, 1) := by decide +kernel
theorem dX9_seats_6 : decode cX9_seats 6 = .ok (.getfield 12, 3) := by decide +kernel
theorem dX9_seats_9 : decode cX9_seats 9 = .ok (.iload_n 1, 1) := by decide +kernel
theorem dX9_seats_10 : decode cX9_seats 10 = .ok (.invokevirtual 102, 3) := by decide +kernel
theorem dX9_seats_13 : decode cX9_seats 13 = .ok (.ifCond .ne 7, 3) := by decide +kernel
theorem dX9_seats_16 : decode cX9_seats 16 = .ok (.sipush (-1001), 3) := by decide +kernel
theorem dX9_seats_19 : decode cX9_seats 19 = .ok (.ireturn, 1) := by decide +kernel
theorem dX9_seats_20 : decode cX9_seats 20 = .ok (.aload_n 0, 1) := by decide +kernel
theorem dX9_seats_21 : decode cX9_seats 21 = .ok (.getfield 55, 3) := by decide +kernel
theorem dX9_seats_24 : decode cX9_seats 24 = .ok (.aload_n 0, 1) := by decide +kernel
theorem dX9_seats_25 : decode cX9_seats 25 = .ok (.getfield 12, 3) := by decide +kernel
theorem dX9_seats_28 : decode cX9_seats 28 = .ok (.invokevirtual 226, 3) := by decide +kernel
theorem dX9_seats_31 : decode cX9_seats 31 = .ok (.aload_n 0, 1) := by decide +kernel
theorem dX9_seats_32 : decode cX9_seats 32 = .ok (.getfield 55, 3) := by decide +kernel
theorem dX9_seats_35 : decode cX9_seats 35 = .ok (.getfield 228, 3) := by decide +kernel
theorem dX9_seats_38 : decode cX9_seats 38 = .ok (.bipush (-5), 2) := by decide +kernel
theorem dX9_seats_40 : decode cX9_seats 40 = .ok (.if_icmp .ne 6, 3) := by decide +kernel
theorem dX9_seats_43 : decode cX9_seats 43 = .ok (.bipush (-5), 2) := by decide +kernel
theorem dX9_seats_45 : decode cX9_seats 45 = .ok (.ireturn, 1) := by decide +kernel
theorem dX9_seats_46 : decode cX9_seats 46 = .ok (.iload_n 1, 1) := by decide +kernel
theorem dX9_seats_47 : decode cX9_seats 47 = .ok (.iconst (-1), 1) := by decide +kernel
theorem dX9_seats_48 : decode cX9_seats 48 = .ok (.if_icmp .ne 13, 3) := by decide +kernel
theorem dX9_seats_51 : decode cX9_seats 51 = .ok (.aload_n 0, 1) := by decide +kernel
theorem dX9_seats_52 : decode cX9_seats 52 = .ok (.getfield 55, 3) := by decide +kernel
theorem dX9_seats_55 : decode cX9_seats 55 = .ok (.getfield 228, 3) := by decide +kernel
theorem dX9_seats_58 : decode cX9_seats 58 = .ok (.goto 14, 3) := by decide +kernel
theorem dX9_seats_61 : decode cX9_seats 61 = .ok (.aload_n 0, 1) := by decide +kernel
theorem dX9_seats_62 : decode cX9_seats 62 = .ok (.getfield 55, 3) := by decide +kernel
theorem dX9_seats_65 : decode cX9_seats 65 = .ok (.getfield 231, 3) := by decide +kernel
theorem dX9_seats_68 : decode cX9_seats 68 = .ok (.iload_n 1, 1) := by decide +kernel
theorem dX9_seats_69 : decode cX9_seats 69 = .ok (.invokevirtual 109, 3) := by decide +kernel
theorem dX9_seats_72 : decode cX9_seats 72 = .ok (.ireturn, 1) := by decide +kernel
theorem dX9_sit_0 : decode cX9_sit 0 = .ok (.aload_n 0, 1) := by decide +kernel
theorem dX9_sit_1 : decode cX9_sit 1 = .ok (.getfield 21, 3) := by decide +kernel
theorem dX9_sit_4 : decode cX9_sit 4 = .ok (.aload_n 0, 1) := by decide +kernel
theorem dX9_sit_5 : decode cX9_sit 5 = .ok (.getfield 12, 3) := by decide +kernel
theorem dX9_sit_8 : decode cX9_sit 8 = .ok (.invokevirtual 197, 3) := by decide +kernel
theorem dX9_sit_11 : decode cX9_sit 11 = .ok (.iconst 0, 1) := by decide +kernel
theorem dX9_sit_12 : decode cX9_sit 12 = .ok (.istore_n 1, 1) := by decide +kernel
theorem dX9_sit_13 : decode cX9_sit 13 = .ok (.iload_n 1, 1) := by decide +kernel
theorem dX9_sit_14 : decode cX9_sit 14 = .ok (.bipush 60, 2) := by decide +kernel
theorem dX9_sit_16 : decode cX9_sit 16 = .ok (.if_icmp .gt 28, 3) := by decide +kernel
theorem dX9_sit_19 : decode cX9_sit 19 = .ok (.aload_n 0, 1) := by decide +kernel
theorem dX9_sit_20 : decode cX9_sit 20 = .ok (.getfield 21, 3) := by decide +kernel
theorem dX9_sit_23 : decode cX9_sit 23 = .ok (.invokevirtual 234, 3) := by decide +kernel
theorem dX9_sit_26 : decode cX9_sit 26 = .ok (.ifCond .eq 5, 3) := by decide +kernel
theorem dX9_sit_29 : decode cX9_sit 29 = .ok (.iload_n 1, 1) := by decide +kernel
theorem dX9_sit_30 : decode cX9_sit 30 = .ok (.ireturn, 1) := by decide +kernel
theorem dX9_sit_31 : decode cX9_sit 31 = .ok (.aload_n 0, 1) := by decide +kernel
theorem dX9_sit_32 : decode cX9_sit 32 = .ok (.getfield 21, 3) := by decide +kernel
theorem dX9_sit_35 : decode cX9_sit 35 = .ok (.invokevirtual 187, 3) := by decide +kernel
theorem dX9_sit_38 : decode cX9_sit 38 = .ok (.iinc 1 1, 3) := by decide +kernel
theorem dX9_sit_41 : decode cX9_sit 41 = .ok (.goto (-28), 3) := by decide +kernel
theorem dX9_sit_44 : decode cX9_sit 44 = .ok (.bipush (-5), 2) := by decide +kernel
theorem dX9_sit_46 : decode cX9_sit 46 = .ok (.ireturn, 1) := by decide +kernel
theorem dX9_line_0 : decode cX9_line 0 = .ok (.aload_n 0, 1) := by decide +kernel
theorem dX9_line_1 : decode cX9_line 1 = .ok (.getfield 12, 3) := by decide +kernel
theorem dX9_line_4 : decode cX9_line 4 = .ok (.iload_n 1, 1) := by decide +kernel
theorem dX9_line_5 : decode cX9_line 5 = .ok (.invokevirtual 102, 3) := by decide +kernel
theorem dX9_line_8 : decode cX9_line 8 = .ok (.ifCond .ne 5, 3) := by decide +kernel
theorem dX9_line_11 : decode cX9_line 11 = .ok (.iconst (-1), 1) := by decide +kernel
theorem dX9_line_12 : decode cX9_line 12 = .ok (.ireturn, 1) := by decide +kernel
theorem dX9_line_13 : decode cX9_line 13 = .ok (.aload_n 0, 1) := by decide +kernel
theorem dX9_line_14 : decode cX9_line 14 = .ok (.getfield 21, 3) := by decide +kernel
theorem dX9_line_17 : decode cX9_line 17 = .ok (.aload_n 0, 1) := by decide +kernel
theorem dX9_line_18 : decode cX9_line 18 = .ok (.getfield 12, 3) := by decide +kernel
theorem dX9_line_21 : decode cX9_line 21 = .ok (.invokevirtual 197, 3) := by decide +kernel
theorem dX9_line_24 : decode cX9_line 24 = .ok (.aload_n 0, 1) := by decide +kernel
theorem dX9_line_25 : decode cX9_line 25 = .ok (.getfield 12, 3) := by decide +kernel
theorem dX9_line_28 : decode cX9_line 28 = .ok (.getfield 118, 3) := by decide +kernel
theorem dX9_line_31 : decode cX9_line 31 = .ok (.iload_n 1, 1) := by decide +kernel
theorem dX9_line_32 : decode cX9_line 32 = .ok (.invokevirtual 109, 3) := by decide +kernel
theorem dX9_line_35 : decode cX9_line 35 = .ok (.istore_n 2, 1) := by decide +kernel
theorem dX9_line_36 : decode cX9_line 36 = .ok (.aload_n 0, 1) := by decide +kernel
theorem dX9_line_37 : decode cX9_line 37 = .ok (.getfield 21, 3) := by decide +kernel
theorem dX9_line_40 : decode cX9_line 40 = .ok (.iload_n 2, 1) := by decide +kernel
theorem dX9_line_41 : decode cX9_line 41 = .ok (.invokestatic 237, 3) := by decide +kernel
theorem dX9_line_44 : decode cX9_line 44 = .ok (.putfield 88, 3) := by decide +kernel
theorem dX9_line_47 : decode cX9_line 47 = .ok (.aload_n 0, 1) := by decide +kernel
theorem dX9_line_48 : decode cX9_line 48 = .ok (.getfield 21, 3) := by decide +kernel
theorem dX9_line_51 : decode cX9_line 51 = .ok (.getfield 88, 3) := by decide +kernel
theorem dX9_line_54 : decode cX9_line 54 = .ok (.iload_n 2, 1) := by decide +kernel
theorem dX9_line_55 : decode cX9_line 55 = .ok (.invokestatic 240, 3) := by decide +kernel
theorem dX9_line_58 : decode cX9_line 58 = .ok (.istore_n 3, 1) := by decide +kernel
theorem dX9_line_59 : decode cX9_line 59 = .ok (.iconst 0, 1) := by decide +kernel
theorem dX9_line_60 : decode cX9_line 60 = .ok (.istore 4, 2) := by decide +kernel
theorem dX9_line_62 : decode cX9_line 62 = .ok (.iload 4, 2) := by decide +kernel
theorem dX9_line_64 : decode cX9_line 64 = .ok (.iload_n 3, 1) := by decide +kernel
theorem dX9_line_65 : decode cX9_line 65 = .ok (.if_icmp .ge 50, 3) := by decide +kernel
theorem dX9_line_68 : decode cX9_line 68 = .ok (.aload_n 0, 1) := by decide +kernel
theorem dX9_line_69 : decode cX9_line 69 = .ok (.getfield 21, 3) := by decide +kernel
theorem dX9_line_72 : decode cX9_line 72 = .ok (.iload_n 1, 1) := by decide +kernel
theorem dX9_line_73 : decode cX9_line 73 = .ok (.invokevirtual 139, 3) := by decide +kernel
theorem dX9_line_76 : decode cX9_line 76 = .ok (.ifCond .eq 15, 3) := by decide +kernel
theorem dX9_line_79 : decode cX9_line 79 = .ok (.aload_n 0, 1) := by decide +kernel
theorem dX9_line_80 : decode cX9_line 80 = .ok (.getfield 21, 3) := by decide +kernel
theorem dX9_line_83 : decode cX9_line 83 = .ok (.getfield 88, 3) := by decide +kernel
theorem dX9_line_86 : decode cX9_line 86 = .ok (.iload_n 2, 1) := by decide +kernel
theorem dX9_line_87 : decode cX9_line 87 = .ok (.invokestatic 244, 3) := by decide +kernel
theorem dX9_line_90 : decode cX9_line 90 = .ok (.ireturn, 1) := by decide +kernel
theorem dX9_line_91 : decode cX9_line 91 = .ok (.aload_n 0, 1) := by decide +kernel
theorem dX9_line_92 : decode cX9_line 92 = .ok (.getfield 21, 3) := by decide +kernel
theorem dX9_line_95 : decode cX9_line 95 = .ok (.aload_n 0, 1) := by decide +kernel
theorem dX9_line_96 : decode cX9_line 96 = .ok (.getfield 21, 3) := by decide +kernel
theorem dX9_line_99 : decode cX9_line 99 = .ok (.getfield 88, 3) := by decide +kernel
theorem dX9_line_102 : decode cX9_line 102 = .ok (.iload_n 2, 1) := by decide +kernel
theorem dX9_line_103 : decode cX9_line 103 = .ok (.invokestatic 247, 3) := by decide +kernel
theorem dX9_line_106 : decode cX9_line 106 = .ok (.putfield 88, 3) := by decide +kernel
theorem dX9_line_109 : decode cX9_line 109 = .ok (.iinc 4 1, 3) := by decide +kernel
theorem dX9_line_112 : decode cX9_line 112 = .ok (.goto (-50), 3) := by decide +kernel
theorem dX9_line_115 : decode cX9_line 115 = .ok (.bipush (-5), 2) := by decide +kernel
theorem dX9_line_117 : decode cX9_line 117 = .ok (.ireturn, 1) := by decide +kernel
theorem dX9_thunder_0 : decode cX9_thunder 0 = .ok (.iload_n 1, 1) := by decide +kernel
theorem dX9_thunder_1 : decode cX9_thunder 1 = .ok (.iconst 0, 1) := by decide +kernel
theorem dX9_thunder_2 : decode cX9_thunder 2 = .ok (.bipush 10, 2) := by decide +kernel
theorem dX9_thunder_4 : decode cX9_thunder 4 = .ok (.invokestatic 81, 3) := by decide +kernel
theorem dX9_thunder_7 : decode cX9_thunder 7 = .ok (.ifCond .ne 6, 3) := by decide +kernel
theorem dX9_thunder_10 : decode cX9_thunder 10 = .ok (.bipush (-2), 2) := by decide +kernel
theorem dX9_thunder_12 : decode cX9_thunder 12 = .ok (.ireturn, 1) := by decide +kernel
theorem dX9_thunder_13 : decode cX9_thunder 13 = .ok (.aload_n 0, 1) := by decide +kernel
theorem dX9_thunder_14 : decode cX9_thunder 14 = .ok (.getfield 12, 3) := by decide +kernel
theorem dX9_thunder_17 : decode cX9_thunder 17 = .ok (.getfield 250, 3) := by decide +kernel
theorem dX9_thunder_20 : decode cX9_thunder 20 = .ok (.istore_n 2, 1) := by decide +kernel
theorem dX9_thunder_21 : decode cX9_thunder 21 = .ok (.aload_n 0, 1) := by decide +kernel
theorem dX9_thunder_22 : decode cX9_thunder 22 = .ok (.getfield 12, 3) := by decide +kernel
theorem dX9_thunder_25 : decode cX9_thunder 25 = .ok (.iload_n 1, 1) := by decide +kernel
theorem dX9_thunder_26 : decode cX9_thunder 26 = .ok (.putfield 250, 3) := by decide +kernel
theorem dX9_thunder_29 : decode cX9_thunder 29 = .ok (.iload_n 2, 1) := by decide +kernel
theorem dX9_thunder_30 : decode cX9_thunder 30 = .ok (.ireturn, 1) := by decide +kernel
theorem dX9_calm_0 : decode cX9_calm 0 = .ok (.iload_n 1, 1) := by decide +kernel
theorem dX9_calm_1 : decode cX9_calm 1 = .ok (.iconst 1, 1) := by decide +kernel
theorem dX9_calm_2 : decode cX9_calm 2 = .ok (.bipush 6, 2) := by decide +kernel
theorem dX9_calm_4 : decode cX9_calm 4 = .ok (.invokestatic 81, 3) := by decide +kernel
theorem dX9_calm_7 : decode cX9_calm 7 = .ok (.ifCond .eq 12, 3) := by decide +kernel
theorem dX9_calm_10 : decode cX9_calm 10 = .ok (.iload_n 2, 1) := by decide +kernel
theorem dX9_calm_11 : decode cX9_calm 11 = .ok (.iconst 0, 1) := by decide +kernel
theorem dX9_calm_12 : decode cX9_calm 12 = .ok (.iconst 1, 1) := by decide +kernel
theorem dX9_calm_13 : decode cX9_calm 13 = .ok (.invokestatic 81, 3) := by decide +kernel
theorem dX9_calm_16 : decode cX9_calm 16 = .ok (.ifCond .ne 7, 3) := by decide +kernel
theorem dX9_calm_19 : decode cX9_calm 19 = .ok (.ldc2_w 253, 3) := by decide +kernel
theorem dX9_calm_22 : decode cX9_calm 22 = .ok (.lreturn, 1) := by decide +kernel
theorem dX9_calm_23 : decode cX9_calm 23 = .ok (.lconst 0, 1) := by decide +kernel
theorem dX9_calm_24 : decode cX9_calm 24 = .ok (.lstore_n 3, 1) := by decide +kernel
theorem dX9_calm_25 : decode cX9_calm 25 = .ok (.iconst 0, 1) := by decide +kernel
theorem dX9_calm_26 : decode cX9_calm 26 = .ok (.istore 5, 2) := by decide +kernel
theorem dX9_calm_28 : decode cX9_calm 28 = .ok (.iload 5, 2) := by decide +kernel
theorem dX9_calm_30 : decode cX9_calm 30 = .ok (.iconst 1, 1) := by decide +kernel
theorem dX9_calm_31 : decode cX9_calm 31 = .ok (.iload_n 1, 1) := by decide +kernel
theorem dX9_calm_32 : decode cX9_calm 32 = .ok (.ishl, 1) := by decide +kernel
theorem dX9_calm_33 : decode cX9_calm 33 = .ok (.if_icmp .ge 40, 3) := by decide +kernel
theorem dX9_calm_36 : decode cX9_calm 36 = .ok (.aload_n 0, 1) := by decide +kernel
theorem dX9_calm_37 : decode cX9_calm 37 = .ok (.iload 5, 2) := by decide +kernel
theorem dX9_calm_39 : decode cX9_calm 39 = .ok (.iload_n 1, 1) := by decide +kernel
theorem dX9_calm_40 : decode cX9_calm 40 = .ok (.invokevirtual 255, 3) := by decide +kernel
theorem dX9_calm_43 : decode cX9_calm 43 = .ok (.lstore 6, 2) := by decide +kernel
theorem dX9_calm_45 : decode cX9_calm 45 = .ok (.lload 6, 2) := by decide +kernel
theorem dX9_calm_47 : decode cX9_calm 47 = .ok (.lconst 0, 1) := by decide +kernel
theorem dX9_calm_48 : decode cX9_calm 48 = .ok (.lcmp, 1) := by decide +kernel
theorem dX9_calm_49 : decode cX9_calm 49 = .ok (.ifCond .le 18, 3) := by decide +kernel
theorem dX9_calm_52 : decode cX9_calm 52 = .ok (.aload_n 0, 1) := by decide +kernel
theorem dX9_calm_53 : decode cX9_calm 53 = .ok (.iload 5, 2) := by decide +kernel
theorem dX9_calm_55 : decode cX9_calm 55 = .ok (.iload_n 1, 1) := by decide +kernel
theorem dX9_calm_56 : decode cX9_calm 56 = .ok (.invokevirtual 259, 3) := by decide +kernel
theorem dX9_calm_59 : decode cX9_calm 59 = .ok (.ifCond .eq 8, 3) := by decide +kernel
theorem dX9_calm_62 : decode cX9_calm 62 = .ok (.lload_n 3, 1) := by decide +kernel
theorem dX9_calm_63 : decode cX9_calm 63 = .ok (.lload 6, 2) := by decide +kernel
theorem dX9_calm_65 : decode cX9_calm 65 = .ok (.ladd, 1) := by decide +kernel
theorem dX9_calm_66 : decode cX9_calm 66 = .ok (.lstore_n 3, 1) := by decide +kernel
theorem dX9_calm_67 : decode cX9_calm 67 = .ok (.iinc 5 1, 3) := by decide +kernel
theorem dX9_calm_70 : decode cX9_calm 70 = .ok (.goto (-42), 3) := by decide +kernel
theorem dX9_calm_73 : decode cX9_calm 73 = .ok (.bipush 10, 2) := by decide +kernel
theorem dX9_calm_75 : decode cX9_calm 75 = .ok (.iload_n 1, 1) := by decide +kernel
theorem dX9_calm_76 : decode cX9_calm 76 = .ok (.invokestatic 262, 3) := by decide +kernel
theorem dX9_calm_79 : decode cX9_calm 79 = .ok (.lstore 5, 2) := by decide +kernel
theorem dX9_calm_81 : decode cX9_calm 81 = .ok (.lload_n 3, 1) := by decide +kernel
theorem dX9_calm_82 : decode cX9_calm 82 = .ok (.lload 5, 2) := by decide +kernel
theorem dX9_calm_84 : decode cX9_calm 84 = .ok (.invokestatic 265, 3) := by decide +kernel
theorem dX9_calm_87 : decode cX9_calm 87 = .ok (.lstore 7, 2) := by decide +kernel
theorem dX9_calm_89 : decode cX9_calm 89 = .ok (.lload 7, 2) := by decide +kernel
theorem dX9_calm_91 : decode cX9_calm 91 = .ok (.lconst 0, 1) := by decide +kernel
theorem dX9_calm_92 : decode cX9_calm 92 = .ok (.lcmp, 1) := by decide +kernel
theorem dX9_calm_93 : decode cX9_calm 93 = .ok (.ifCond .gt 7, 3) := by decide +kernel
theorem dX9_calm_96 : decode cX9_calm 96 = .ok (.ldc2_w 253, 3) := by decide +kernel
theorem dX9_calm_99 : decode cX9_calm 99 = .ok (.lreturn, 1) := by decide +kernel
theorem dX9_calm_100 : decode cX9_calm 100 = .ok (.iload_n 2, 1) := by decide +kernel
theorem dX9_calm_101 : decode cX9_calm 101 = .ok (.ifCond .ne 7, 3) := by decide +kernel
theorem dX9_calm_104 : decode cX9_calm 104 = .ok (.lload_n 3, 1) := by decide +kernel
theorem dX9_calm_105 : decode cX9_calm 105 = .ok (.goto 5, 3) := by decide +kernel
theorem dX9_calm_108 : decode cX9_calm 108 = .ok (.lload 5, 2) := by decide +kernel
theorem dX9_calm_110 : decode cX9_calm 110 = .ok (.lload 7, 2) := by decide +kernel
theorem dX9_calm_112 : decode cX9_calm 112 = .ok (.ldiv, 1) := by decide +kernel
theorem dX9_calm_113 : decode cX9_calm 113 = .ok (.lreturn, 1) := by decide +kernel
theorem dX9_weightOf_0 : decode cX9_weightOf 0 = .ok (.iload_n 1, 1) := by decide +kernel
theorem dX9_weightOf_1 : decode cX9_weightOf 1 = .ok (.invokestatic 269, 3) := by decide +kernel
theorem dX9_weightOf_4 : decode cX9_weightOf 4 = .ok (.istore_n 3, 1) := by decide +kernel
theorem dX9_weightOf_5 : decode cX9_weightOf 5 = .ok (.aload_n 0, 1) := by decide +kernel
theorem dX9_weightOf_6 : decode cX9_weightOf 6 = .ok (.getfield 12, 3) := by decide +kernel
theorem dX9_weightOf_9 : decode cX9_weightOf 9 = .ok (.getfield 250, 3) := by decide +kernel
theorem dX9_weightOf_12 : decode cX9_weightOf 12 = .ok (.iload_n 3, 1) := by decide +kernel
theorem dX9_weightOf_13 : decode cX9_weightOf 13 = .ok (.invokestatic 262, 3) := by decide +kernel
theorem dX9_weightOf_16 : decode cX9_weightOf 16 = .ok (.bipush 10, 2) := by decide +kernel
theorem dX9_weightOf_18 : decode cX9_weightOf 18 = .ok (.aload_n 0, 1) := by decide +kernel
theorem dX9_weightOf_19 : decode cX9_weightOf 19 = .ok (.getfield 12, 3) := by decide +kernel
theorem dX9_weightOf_22 : decode cX9_weightOf 22 = .ok (.getfield 250, 3) := by decide +kernel
theorem dX9_weightOf_25 : decode cX9_weightOf 25 = .ok (.isub, 1) := by decide +kernel
theorem dX9_weightOf_26 : decode cX9_weightOf 26 = .ok (.iload_n 2, 1) := by decide +kernel
theorem dX9_weightOf_27 : decode cX9_weightOf 27 = .ok (.iload_n 3, 1) := by decide +kernel
theorem dX9_weightOf_28 : decode cX9_weightOf 28 = .ok (.isub, 1) := by decide +kernel
theorem dX9_weightOf_29 : decode cX9_weightOf 29 = .ok (.invokestatic 262, 3) := by decide +kernel
theorem dX9_weightOf_32 : decode cX9_weightOf 32 = .ok (.lmul, 1) := by decide +kernel
theorem dX9_weightOf_33 : decode cX9_weightOf 33 = .ok (.lreturn, 1) := by decide +kernel
theorem dX9_staysCalm_0 : decode cX9_staysCalm 0 = .ok (.aload_n 0, 1) := by decide +kernel
theorem dX9_staysCalm_1 : decode cX9_staysCalm 1 = .ok (.getfield 21, 3) := by decide +kernel
theorem dX9_staysCalm_4 : decode cX9_staysCalm 4 = .ok (.aload_n 0, 1) := by decide +kernel
theorem dX9_staysCalm_5 : decode cX9_staysCalm 5 = .ok (.getfield 12, 3) := by decide +kernel
theorem dX9_staysCalm_8 : decode cX9_staysCalm 8 = .ok (.invokevirtual 197, 3) := by decide +kernel
theorem dX9_staysCalm_11 : decode cX9_staysCalm 11 = .ok (.aload_n 0, 1) := by decide +kernel
theorem dX9_staysCalm_12 : decode cX9_staysCalm 12 = .ok (.getfield 12, 3) := by decide +kernel
theorem dX9_staysCalm_15 : decode cX9_staysCalm 15 = .ok (.getfield 184, 3) := by decide +kernel
theorem dX9_staysCalm_18 : decode cX9_staysCalm 18 = .ok (.ifnonnull 7, 3) := by decide +kernel
theorem dX9_staysCalm_21 : decode cX9_staysCalm 21 = .ok (.iconst 1, 1) := by decide +kernel
theorem dX9_staysCalm_22 : decode cX9_staysCalm 22 = .ok (.goto 13, 3) := by decide +kernel
theorem dX9_staysCalm_25 : decode cX9_staysCalm 25 = .ok (.aload_n 0, 1) := by decide +kernel
theorem dX9_staysCalm_26 : decode cX9_staysCalm 26 = .ok (.getfield 12, 3) := by decide +kernel
theorem dX9_staysCalm_29 : decode cX9_staysCalm 29 = .ok (.getfield 184, 3) := by decide +kernel
theorem dX9_staysCalm_32 : decode cX9_staysCalm 32 = .ok (.getfield 274, 3) := by decide +kernel
theorem dX9_staysCalm_35 : decode cX9_staysCalm 35 = .ok (.istore_n 3, 1) := by decide +kernel
theorem dX9_staysCalm_36 : decode cX9_staysCalm 36 = .ok (.iconst 0, 1) := by decide +kernel
theorem dX9_staysCalm_37 : decode cX9_staysCalm 37 = .ok (.istore 4, 2) := by decide +kernel
theorem dX9_staysCalm_39 : decode cX9_staysCalm 39 = .ok (.iload 4, 2) := by decide +kernel
theorem dX9_staysCalm_41 : decode cX9_staysCalm 41 = .ok (.iload_n 2, 1) := by decide +kernel
theorem dX9_staysCalm_42 : decode cX9_staysCalm 42 = .ok (.if_icmp .ge 49, 3) := by decide +kernel
theorem dX9_staysCalm_45 : decode cX9_staysCalm 45 = .ok (.aload_n 0, 1) := by decide +kernel
theorem dX9_staysCalm_46 : decode cX9_staysCalm 46 = .ok (.getfield 21, 3) := by decide +kernel
theorem dX9_staysCalm_49 : decode cX9_staysCalm 49 = .ok (.iload_n 1, 1) := by decide +kernel
theorem dX9_staysCalm_50 : decode cX9_staysCalm 50 = .ok (.iload 4, 2) := by decide +kernel
theorem dX9_staysCalm_52 : decode cX9_staysCalm 52 = .ok (.iushr, 1) := by decide +kernel
theorem dX9_staysCalm_53 : decode cX9_staysCalm 53 = .ok (.iconst 1, 1) := by decide +kernel
theorem dX9_staysCalm_54 : decode cX9_staysCalm 54 = .ok (.iand, 1) := by decide +kernel
theorem dX9_staysCalm_55 : decode cX9_staysCalm 55 = .ok (.ifCond .eq 7, 3) := by decide +kernel
theorem dX9_staysCalm_58 : decode cX9_staysCalm 58 = .ok (.iload_n 3, 1) := by decide +kernel
theorem dX9_staysCalm_59 : decode cX9_staysCalm 59 = .ok (.goto 4, 3) := by decide +kernel
theorem dX9_staysCalm_62 : decode cX9_staysCalm 62 = .ok (.iconst 0, 1) := by decide +kernel
theorem dX9_staysCalm_63 : decode cX9_staysCalm 63 = .ok (.putfield 277, 3) := by decide +kernel
theorem dX9_staysCalm_66 : decode cX9_staysCalm 66 = .ok (.aload_n 0, 1) := by decide +kernel
theorem dX9_staysCalm_67 : decode cX9_staysCalm 67 = .ok (.getfield 21, 3) := by decide +kernel
theorem dX9_staysCalm_70 : decode cX9_staysCalm 70 = .ok (.invokevirtual 187, 3) := by decide +kernel
theorem dX9_staysCalm_73 : decode cX9_staysCalm 73 = .ok (.aload_n 0, 1) := by decide +kernel
theorem dX9_staysCalm_74 : decode cX9_staysCalm 74 = .ok (.getfield 21, 3) := by decide +kernel
theorem dX9_staysCalm_77 : decode cX9_staysCalm 77 = .ok (.invokevirtual 190, 3) := by decide +kernel
theorem dX9_staysCalm_80 : decode cX9_staysCalm 80 = .ok (.ifCond .eq 5, 3) := by decide +kernel
theorem dX9_staysCalm_83 : decode cX9_staysCalm 83 = .ok (.iconst 0, 1) := by decide +kernel
theorem dX9_staysCalm_84 : decode cX9_staysCalm 84 = .ok (.ireturn, 1) := by decide +kernel
theorem dX9_staysCalm_85 : decode cX9_staysCalm 85 = .ok (.iinc 4 1, 3) := by decide +kernel
theorem dX9_staysCalm_88 : decode cX9_staysCalm 88 = .ok (.goto (-49), 3) := by decide +kernel
theorem dX9_staysCalm_91 : decode cX9_staysCalm 91 = .ok (.iconst 1, 1) := by decide +kernel
theorem dX9_staysCalm_92 : decode cX9_staysCalm 92 = .ok (.ireturn, 1) := by decide +kernel
theorem dX9_film_0 : decode cX9_film 0 = .ok (.aload_n 0, 1) := by decide +kernel
theorem dX9_film_1 : decode cX9_film 1 = .ok (.getfield 12, 3) := by decide +kernel
theorem dX9_film_4 : decode cX9_film 4 = .ok (.getfield 280, 3) := by decide +kernel
theorem dX9_film_7 : decode cX9_film 7 = .ok (.iload_n 1, 1) := by decide +kernel
theorem dX9_film_8 : decode cX9_film 8 = .ok (.bipush 10, 2) := by decide +kernel
theorem dX9_film_10 : decode cX9_film 10 = .ok (.invokestatic 209, 3) := by decide +kernel
theorem dX9_film_13 : decode cX9_film 13 = .ok (.ireturn, 1) := by decide +kernel
theorem dX9_kinds_0 : decode cX9_kinds 0 = .ok (.aload_n 0, 1) := by decide +kernel
theorem dX9_kinds_1 : decode cX9_kinds 1 = .ok (.getfield 12, 3) := by decide +kernel
theorem dX9_kinds_4 : decode cX9_kinds 4 = .ok (.iload_n 1, 1) := by decide +kernel
theorem dX9_kinds_5 : decode cX9_kinds 5 = .ok (.invokevirtual 102, 3) := by decide +kernel
theorem dX9_kinds_8 : decode cX9_kinds 8 = .ok (.ifCond .ne 5, 3) := by decide +kernel
theorem dX9_kinds_11 : decode cX9_kinds 11 = .ok (.iconst (-1), 1) := by decide +kernel
theorem dX9_kinds_12 : decode cX9_kinds 12 = .ok (.ireturn, 1) := by decide +kernel
theorem dX9_kinds_13 : decode cX9_kinds 13 = .ok (.iconst 0, 1) := by decide +kernel
theorem dX9_kinds_14 : decode cX9_kinds 14 = .ok (.istore_n 2, 1) := by decide +kernel
theorem dX9_kinds_15 : decode cX9_kinds 15 = .ok (.iconst 0, 1) := by decide +kernel
theorem dX9_kinds_16 : decode cX9_kinds 16 = .ok (.istore_n 3, 1) := by decide +kernel
theorem dX9_kinds_17 : decode cX9_kinds 17 = .ok (.iload_n 3, 1) := by decide +kernel
theorem dX9_kinds_18 : decode cX9_kinds 18 = .ok (.bipush 7, 2) := by decide +kernel
theorem dX9_kinds_20 : decode cX9_kinds 20 = .ok (.if_icmp .ge 46, 3) := by decide +kernel
theorem dX9_kinds_23 : decode cX9_kinds 23 = .ok (.aload_n 0, 1) := by decide +kernel
theorem dX9_kinds_24 : decode cX9_kinds 24 = .ok (.getfield 21, 3) := by decide +kernel
theorem dX9_kinds_27 : decode cX9_kinds 27 = .ok (.aload_n 0, 1) := by decide +kernel
theorem dX9_kinds_28 : decode cX9_kinds 28 = .ok (.getfield 12, 3) := by decide +kernel
theorem dX9_kinds_31 : decode cX9_kinds 31 = .ok (.invokevirtual 197, 3) := by decide +kernel
theorem dX9_kinds_34 : decode cX9_kinds 34 = .ok (.aload_n 0, 1) := by decide +kernel
theorem dX9_kinds_35 : decode cX9_kinds 35 = .ok (.getfield 21, 3) := by decide +kernel
theorem dX9_kinds_38 : decode cX9_kinds 38 = .ok (.getfield 105, 3) := by decide +kernel
theorem dX9_kinds_41 : decode cX9_kinds 41 = .ok (.iload_n 1, 1) := by decide +kernel
theorem dX9_kinds_42 : decode cX9_kinds 42 = .ok (.iload_n 3, 1) := by decide +kernel
theorem dX9_kinds_43 : decode cX9_kinds 43 = .ok (.invokevirtual 150, 3) := by decide +kernel
theorem dX9_kinds_46 : decode cX9_kinds 46 = .ok (.aload_n 0, 1) := by decide +kernel
theorem dX9_kinds_47 : decode cX9_kinds 47 = .ok (.iload_n 1, 1) := by decide +kernel
theorem dX9_kinds_48 : decode cX9_kinds 48 = .ok (.invokevirtual 283, 3) := by decide +kernel
theorem dX9_kinds_51 : decode cX9_kinds 51 = .ok (.ifCond .eq 9, 3) := by decide +kernel
theorem dX9_kinds_54 : decode cX9_kinds 54 = .ok (.iload_n 2, 1) := by decide +kernel
theorem dX9_kinds_55 : decode cX9_kinds 55 = .ok (.iconst 1, 1) := by decide +kernel
theorem dX9_kinds_56 : decode cX9_kinds 56 = .ok (.iload_n 3, 1) := by decide +kernel
theorem dX9_kinds_57 : decode cX9_kinds 57 = .ok (.ishl, 1) := by decide +kernel
theorem dX9_kinds_58 : decode cX9_kinds 58 = .ok (.ior, 1) := by decide +kernel
theorem dX9_kinds_59 : decode cX9_kinds 59 = .ok (.istore_n 2, 1) := by decide +kernel
theorem dX9_kinds_60 : decode cX9_kinds 60 = .ok (.iinc 3 1, 3) := by decide +kernel
theorem dX9_kinds_63 : decode cX9_kinds 63 = .ok (.goto (-46), 3) := by decide +kernel
theorem dX9_kinds_66 : decode cX9_kinds 66 = .ok (.iload_n 2, 1) := by decide +kernel
theorem dX9_kinds_67 : decode cX9_kinds 67 = .ok (.ireturn, 1) := by decide +kernel
theorem dX9_goesAsFilm_0 : decode cX9_goesAsFilm 0 = .ok (.iconst 0, 1) := by decide +kernel
theorem dX9_goesAsFilm_1 : decode cX9_goesAsFilm 1 = .ok (.istore_n 2, 1) := by decide +kernel
theorem dX9_goesAsFilm_2 : decode cX9_goesAsFilm 2 = .ok (.iload_n 2, 1) := by decide +kernel
theorem dX9_goesAsFilm_3 : decode cX9_goesAsFilm 3 = .ok (.aload_n 0, 1) := by decide +kernel
theorem dX9_goesAsFilm_4 : decode cX9_goesAsFilm 4 = .ok (.getfield 12, 3) := by decide +kernel
theorem dX9_goesAsFilm_7 : decode cX9_goesAsFilm 7 = .ok (.getfield 280, 3) := by decide +kernel
theorem dX9_goesAsFilm_10 : decode cX9_goesAsFilm 10 = .ok (.getfield 165, 3) := by decide +kernel
theorem dX9_goesAsFilm_13 : decode cX9_goesAsFilm 13 = .ok (.if_icmp .ge 43, 3) := by decide +kernel
theorem dX9_goesAsFilm_16 : decode cX9_goesAsFilm 16 = .ok (.aload_n 0, 1) := by decide +kernel
theorem dX9_goesAsFilm_17 : decode cX9_goesAsFilm 17 = .ok (.getfield 21, 3) := by decide +kernel
theorem dX9_goesAsFilm_20 : decode cX9_goesAsFilm 20 = .ok (.invokevirtual 187, 3) := by decide +kernel
theorem dX9_goesAsFilm_23 : decode cX9_goesAsFilm 23 = .ok (.aload_n 0, 1) := by decide +kernel
theorem dX9_goesAsFilm_24 : decode cX9_goesAsFilm 24 = .ok (.getfield 21, 3) := by decide +kernel
theorem dX9_goesAsFilm_27 : decode cX9_goesAsFilm 27 = .ok (.getfield 118, 3) := by decide +kernel
theorem dX9_goesAsFilm_30 : decode cX9_goesAsFilm 30 = .ok (.iload_n 1, 1) := by decide +kernel
theorem dX9_goesAsFilm_31 : decode cX9_goesAsFilm 31 = .ok (.invokevirtual 109, 3) := by decide +kernel
theorem dX9_goesAsFilm_34 : decode cX9_goesAsFilm 34 = .ok (.aload_n 0, 1) := by decide +kernel
theorem dX9_goesAsFilm_35 : decode cX9_goesAsFilm 35 = .ok (.getfield 12, 3) := by decide +kernel
theorem dX9_goesAsFilm_38 : decode cX9_goesAsFilm 38 = .ok (.getfield 280, 3) := by decide +kernel
theorem dX9_goesAsFilm_41 : decode cX9_goesAsFilm 41 = .ok (.iload_n 2, 1) := by decide +kernel
theorem dX9_goesAsFilm_42 : decode cX9_goesAsFilm 42 = .ok (.invokevirtual 109, 3) := by decide +kernel
theorem dX9_goesAsFilm_45 : decode cX9_goesAsFilm 45 = .ok (.if_icmp .eq 5, 3) := by decide +kernel
theorem dX9_goesAsFilm_48 : decode cX9_goesAsFilm 48 = .ok (.iconst 0, 1) := by decide +kernel
theorem dX9_goesAsFilm_49 : decode cX9_goesAsFilm 49 = .ok (.ireturn, 1) := by decide +kernel
theorem dX9_goesAsFilm_50 : decode cX9_goesAsFilm 50 = .ok (.iinc 2 1, 3) := by decide +kernel
theorem dX9_goesAsFilm_53 : decode cX9_goesAsFilm 53 = .ok (.goto (-51), 3) := by decide +kernel
theorem dX9_goesAsFilm_56 : decode cX9_goesAsFilm 56 = .ok (.iconst 1, 1) := by decide +kernel
theorem dX9_goesAsFilm_57 : decode cX9_goesAsFilm 57 = .ok (.ireturn, 1) := by decide +kernel
theorem dX9_judge_0 : decode cX9_judge 0 = .ok (.aload_n 0, 1) := by decide +kernel
theorem dX9_judge_1 : decode cX9_judge 1 = .ok (.iload_n 1, 1) := by decide +kernel
theorem dX9_judge_2 : decode cX9_judge 2 = .ok (.invokevirtual 286, 3) := by decide +kernel
theorem dX9_judge_5 : decode cX9_judge 5 = .ok (.astore 4, 2) := by decide +kernel
theorem dX9_judge_7 : decode cX9_judge 7 = .ok (.aload 4, 2) := by decide +kernel
theorem dX9_judge_9 : decode cX9_judge 9 = .ok (.ifnonnull 5, 3) := by decide +kernel
theorem dX9_judge_12 : decode cX9_judge 12 = .ok (.iconst (-1), 1) := by decide +kernel
theorem dX9_judge_13 : decode cX9_judge 13 = .ok (.ireturn, 1) := by decide +kernel
theorem dX9_judge_14 : decode cX9_judge 14 = .ok (.iload_n 3, 1) := by decide +kernel
theorem dX9_judge_15 : decode cX9_judge 15 = .ok (.iconst 0, 1) := by decide +kernel
theorem dX9_judge_16 : decode cX9_judge 16 = .ok (.bipush 60, 2) := by decide +kernel
theorem dX9_judge_18 : decode cX9_judge 18 = .ok (.invokestatic 81, 3) := by decide +kernel
theorem dX9_judge_21 : decode cX9_judge 21 = .ok (.ifCond .ne 6, 3) := by decide +kernel
theorem dX9_judge_24 : decode cX9_judge 24 = .ok (.bipush (-2), 2) := by decide +kernel
theorem dX9_judge_26 : decode cX9_judge 26 = .ok (.ireturn, 1) := by decide +kernel
theorem dX9_judge_27 : decode cX9_judge 27 = .ok (.aload 4, 2) := by decide +kernel
theorem dX9_judge_29 : decode cX9_judge 29 = .ok (.invokevirtual 290, 3) := by decide +kernel
theorem dX9_judge_32 : decode cX9_judge 32 = .ok (.ifCond .eq 14, 3) := by decide +kernel
theorem dX9_judge_35 : decode cX9_judge 35 = .ok (.aload 4, 2) := by decide +kernel
theorem dX9_judge_37 : decode cX9_judge 37 = .ok (.getfield 293, 3) := by decide +kernel
theorem dX9_judge_40 : decode cX9_judge 40 = .ok (.ifCond .eq 6, 3) := by decide +kernel
theorem dX9_judge_43 : decode cX9_judge 43 = .ok (.bipush (-12), 2) := by decide +kernel
theorem dX9_judge_45 : decode cX9_judge 45 = .ok (.ireturn, 1) := by decide +kernel
theorem dX9_judge_46 : decode cX9_judge 46 = .ok (.aload_n 0, 1) := by decide +kernel
theorem dX9_judge_47 : decode cX9_judge 47 = .ok (.getfield 21, 3) := by decide +kernel
theorem dX9_judge_50 : decode cX9_judge 50 = .ok (.aload_n 0, 1) := by decide +kernel
theorem dX9_judge_51 : decode cX9_judge 51 = .ok (.getfield 12, 3) := by decide +kernel
theorem dX9_judge_54 : decode cX9_judge 54 = .ok (.invokevirtual 197, 3) := by decide +kernel
theorem dX9_judge_57 : decode cX9_judge 57 = .ok (.iconst 0, 1) := by decide +kernel
theorem dX9_judge_58 : decode cX9_judge 58 = .ok (.istore 5, 2) := by decide +kernel
theorem dX9_judge_60 : decode cX9_judge 60 = .ok (.iload 5, 2) := by decide +kernel
theorem dX9_judge_62 : decode cX9_judge 62 = .ok (.iload_n 3, 1) := by decide +kernel
theorem dX9_judge_63 : decode cX9_judge 63 = .ok (.if_icmp .ge 16, 3) := by decide +kernel
theorem dX9_judge_66 : decode cX9_judge 66 = .ok (.aload_n 0, 1) := by decide +kernel
theorem dX9_judge_67 : decode cX9_judge 67 = .ok (.getfield 21, 3) := by decide +kernel
theorem dX9_judge_70 : decode cX9_judge 70 = .ok (.invokevirtual 187, 3) := by decide +kernel
theorem dX9_judge_73 : decode cX9_judge 73 = .ok (.iinc 5 1, 3) := by decide +kernel
theorem dX9_judge_76 : decode cX9_judge 76 = .ok (.goto (-16), 3) := by decide +kernel
theorem dX9_judge_79 : decode cX9_judge 79 = .ok (.iconst 0, 1) := by decide +kernel
theorem dX9_judge_80 : decode cX9_judge 80 = .ok (.istore 5, 2) := by decide +kernel
theorem dX9_judge_82 : decode cX9_judge 82 = .ok (.iload 5, 2) := by decide +kernel
theorem dX9_judge_84 : decode cX9_judge 84 = .ok (.aload_n 0, 1) := by decide +kernel
theorem dX9_judge_85 : decode cX9_judge 85 = .ok (.getfield 21, 3) := by decide +kernel
theorem dX9_judge_88 : decode cX9_judge 88 = .ok (.invokevirtual 94, 3) := by decide +kernel
theorem dX9_judge_91 : decode cX9_judge 91 = .ok (.if_icmp .ge 69, 3) := by decide +kernel
theorem dX9_judge_94 : decode cX9_judge 94 = .ok (.iload_n 2, 1) := by decide +kernel
theorem dX9_judge_95 : decode cX9_judge 95 = .ok (.ifCond .lt 24, 3) := by decide +kernel
theorem dX9_judge_98 : decode cX9_judge 98 = .ok (.iload_n 2, 1) := by decide +kernel
theorem dX9_judge_99 : decode cX9_judge 99 = .ok (.aload 4, 2) := by decide +kernel
theorem dX9_judge_101 : decode cX9_judge 101 = .ok (.getfield 296, 3) := by decide +kernel
theorem dX9_judge_104 : decode cX9_judge 104 = .ok (.if_icmp .ge 15, 3) := by decide +kernel
theorem dX9_judge_107 : decode cX9_judge 107 = .ok (.aload 4, 2) := by decide +kernel
theorem dX9_judge_109 : decode cX9_judge 109 = .ok (.iload_n 2, 1) := by decide +kernel
theorem dX9_judge_110 : decode cX9_judge 110 = .ok (.iload 5, 2) := by decide +kernel
theorem dX9_judge_112 : decode cX9_judge 112 = .ok (.iadd, 1) := by decide +kernel
theorem dX9_judge_113 : decode cX9_judge 113 = .ok (.invokevirtual 299, 3) := by decide +kernel
theorem dX9_judge_116 : decode cX9_judge 116 = .ok (.ifCond .ne 9, 3) := by decide +kernel
theorem dX9_judge_119 : decode cX9_judge 119 = .ok (.bipush 100, 2) := by decide +kernel
theorem dX9_judge_121 : decode cX9_judge 121 = .ok (.iload 5, 2) := by decide +kernel
theorem dX9_judge_123 : decode cX9_judge 123 = .ok (.iadd, 1) := by decide +kernel
theorem dX9_judge_124 : decode cX9_judge 124 = .ok (.ireturn, 1) := by decide +kernel
theorem dX9_judge_125 : decode cX9_judge 125 = .ok (.aload 4, 2) := by decide +kernel
theorem dX9_judge_127 : decode cX9_judge 127 = .ok (.iload_n 2, 1) := by decide +kernel
theorem dX9_judge_128 : decode cX9_judge 128 = .ok (.iload 5, 2) := by decide +kernel
theorem dX9_judge_130 : decode cX9_judge 130 = .ok (.iadd, 1) := by decide +kernel
theorem dX9_judge_131 : decode cX9_judge 131 = .ok (.invokevirtual 302, 3) := by decide +kernel
theorem dX9_judge_134 : decode cX9_judge 134 = .ok (.aload_n 0, 1) := by decide +kernel
theorem dX9_judge_135 : decode cX9_judge 135 = .ok (.getfield 21, 3) := by decide +kernel
theorem dX9_judge_138 : decode cX9_judge 138 = .ok (.getfield 118, 3) := by decide +kernel
theorem dX9_judge_141 : decode cX9_judge 141 = .ok (.iload 5, 2) := by decide +kernel
theorem dX9_judge_143 : decode cX9_judge 143 = .ok (.invokevirtual 109, 3) := by decide +kernel
theorem dX9_judge_146 : decode cX9_judge 146 = .ok (.i2l, 1) := by decide +kernel
theorem dX9_judge_147 : decode cX9_judge 147 = .ok (.lcmp, 1) := by decide +kernel
theorem dX9_judge_148 : decode cX9_judge 148 = .ok (.ifCond .eq 6, 3) := by decide +kernel
theorem dX9_judge_151 : decode cX9_judge 151 = .ok (.iload 5, 2) := by decide +kernel
theorem dX9_judge_153 : decode cX9_judge 153 = .ok (.ireturn, 1) := by decide +kernel
theorem dX9_judge_154 : decode cX9_judge 154 = .ok (.iinc 5 1, 3) := by decide +kernel
theorem dX9_judge_157 : decode cX9_judge 157 = .ok (.goto (-75), 3) := by decide +kernel
theorem dX9_judge_160 : decode cX9_judge 160 = .ok (.bipush (-5), 2) := by decide +kernel
theorem dX9_judge_162 : decode cX9_judge 162 = .ok (.ireturn, 1) := by decide +kernel
theorem dX9_image_0 : decode cX9_image 0 = .ok (.aload_n 0, 1) := by decide +kernel
theorem dX9_image_1 : decode cX9_image 1 = .ok (.getfield 18, 3) := by decide +kernel
theorem dX9_image_4 : decode cX9_image 4 = .ok (.aload_n 0, 1) := by decide +kernel
theorem dX9_image_5 : decode cX9_image 5 = .ok (.getfield 12, 3) := by decide +kernel
theorem dX9_image_8 : decode cX9_image 8 = .ok (.invokevirtual 197, 3) := by decide +kernel
theorem dX9_image_11 : decode cX9_image 11 = .ok (.aload_n 0, 1) := by decide +kernel
theorem dX9_image_12 : decode cX9_image 12 = .ok (.iconst 1, 1) := by decide +kernel
theorem dX9_image_13 : decode cX9_image 13 = .ok (.putfield 24, 3) := by decide +kernel
theorem dX9_image_16 : decode cX9_image 16 = .ok (.aload_n 0, 1) := by decide +kernel
theorem dX9_image_17 : decode cX9_image 17 = .ok (.getfield 12, 3) := by decide +kernel
theorem dX9_image_20 : decode cX9_image 20 = .ok (.invokevirtual 94, 3) := by decide +kernel
theorem dX9_image_23 : decode cX9_image 23 = .ok (.ireturn, 1) := by decide +kernel
theorem dX9_undo_0 : decode cX9_undo 0 = .ok (.aload_n 0, 1) := by decide +kernel
theorem dX9_undo_1 : decode cX9_undo 1 = .ok (.getfield 24, 3) := by decide +kernel
theorem dX9_undo_4 : decode cX9_undo 4 = .ok (.ifCond .ne 6, 3) := by decide +kernel
theorem dX9_undo_7 : decode cX9_undo 7 = .ok (.bipush (-3), 2) := by decide +kernel
theorem dX9_undo_9 : decode cX9_undo 9 = .ok (.ireturn, 1) := by decide +kernel
theorem dX9_undo_10 : decode cX9_undo 10 = .ok (.aload_n 0, 1) := by decide +kernel
theorem dX9_undo_11 : decode cX9_undo 11 = .ok (.getfield 12, 3) := by decide +kernel
theorem dX9_undo_14 : decode cX9_undo 14 = .ok (.aload_n 0, 1) := by decide +kernel
theorem dX9_undo_15 : decode cX9_undo 15 = .ok (.getfield 18, 3) := by decide +kernel
theorem dX9_undo_18 : decode cX9_undo 18 = .ok (.invokevirtual 197, 3) := by decide +kernel
theorem dX9_undo_21 : decode cX9_undo 21 = .ok (.aload_n 0, 1) := by decide +kernel
theorem dX9_undo_22 : decode cX9_undo 22 = .ok (.getfield 12, 3) := by decide +kernel
theorem dX9_undo_25 : decode cX9_undo 25 = .ok (.invokevirtual 94, 3) := by decide +kernel
theorem dX9_undo_28 : decode cX9_undo 28 = .ok (.ireturn, 1) := by decide +kernel
theorem dX9_act_0 : decode cX9_act 0 = .ok (.aload_n 0, 1) := by decide +kernel
theorem dX9_act_1 : decode cX9_act 1 = .ok (.getfield 62, 3) := by decide +kernel
theorem dX9_act_4 : decode cX9_act 4 = .ok (.invokevirtual 306, 3) := by decide +kernel
theorem dX9_act_7 : decode cX9_act 7 = .ok (.aload_n 0, 1) := by decide +kernel
theorem dX9_act_8 : decode cX9_act 8 = .ok (.getfield 12, 3) := by decide +kernel
theorem dX9_act_11 : decode cX9_act 11 = .ok (.iload_n 1, 1) := by decide +kernel
theorem dX9_act_12 : decode cX9_act 12 = .ok (.invokevirtual 102, 3) := by decide +kernel
theorem dX9_act_15 : decode cX9_act 15 = .ok (.ifCond .eq 12, 3) := by decide +kernel
theorem dX9_act_18 : decode cX9_act 18 = .ok (.iload_n 2, 1) := by decide +kernel
theorem dX9_act_19 : decode cX9_act 19 = .ok (.iconst 0, 1) := by decide +kernel
theorem dX9_act_20 : decode cX9_act 20 = .ok (.iconst 2, 1) := by decide +kernel
theorem dX9_act_21 : decode cX9_act 21 = .ok (.invokestatic 81, 3) := by decide +kernel
theorem dX9_act_24 : decode cX9_act 24 = .ok (.ifCond .ne 5, 3) := by decide +kernel
theorem dX9_act_27 : decode cX9_act 27 = .ok (.iconst 0, 1) := by decide +kernel
theorem dX9_act_28 : decode cX9_act 28 = .ok (.ireturn, 1) := by decide +kernel
theorem dX9_act_29 : decode cX9_act 29 = .ok (.aload_n 0, 1) := by decide +kernel
theorem dX9_act_30 : decode cX9_act 30 = .ok (.getfield 62, 3) := by decide +kernel
theorem dX9_act_33 : decode cX9_act 33 = .ok (.aload_n 0, 1) := by decide +kernel
theorem dX9_act_34 : decode cX9_act 34 = .ok (.getfield 12, 3) := by decide +kernel
theorem dX9_act_37 : decode cX9_act 37 = .ok (.getfield 105, 3) := by decide +kernel
theorem dX9_act_40 : decode cX9_act 40 = .ok (.iload_n 1, 1) := by decide +kernel
theorem dX9_act_41 : decode cX9_act 41 = .ok (.invokevirtual 109, 3) := by decide +kernel
theorem dX9_act_44 : decode cX9_act 44 = .ok (.putfield 309, 3) := by decide +kernel
theorem dX9_act_47 : decode cX9_act 47 = .ok (.aload_n 0, 1) := by decide +kernel
theorem dX9_act_48 : decode cX9_act 48 = .ok (.getfield 62, 3) := by decide +kernel
theorem dX9_act_51 : decode cX9_act 51 = .ok (.aload_n 0, 1) := by decide +kernel
theorem dX9_act_52 : decode cX9_act 52 = .ok (.getfield 12, 3) := by decide +kernel
theorem dX9_act_55 : decode cX9_act 55 = .ok (.getfield 115, 3) := by decide +kernel
theorem dX9_act_58 : decode cX9_act 58 = .ok (.iload_n 1, 1) := by decide +kernel
theorem dX9_act_59 : decode cX9_act 59 = .ok (.invokevirtual 109, 3) := by decide +kernel
theorem dX9_act_62 : decode cX9_act 62 = .ok (.putfield 311, 3) := by decide +kernel
theorem dX9_act_65 : decode cX9_act 65 = .ok (.aload_n 0, 1) := by decide +kernel
theorem dX9_act_66 : decode cX9_act 66 = .ok (.getfield 62, 3) := by decide +kernel
theorem dX9_act_69 : decode cX9_act 69 = .ok (.iload_n 1, 1) := by decide +kernel
theorem dX9_act_70 : decode cX9_act 70 = .ok (.putfield 313, 3) := by decide +kernel
theorem dX9_act_73 : decode cX9_act 73 = .ok (.aload_n 0, 1) := by decide +kernel
theorem dX9_act_74 : decode cX9_act 74 = .ok (.getfield 62, 3) := by decide +kernel
theorem dX9_act_77 : decode cX9_act 77 = .ok (.iload_n 2, 1) := by decide +kernel
theorem dX9_act_78 : decode cX9_act 78 = .ok (.aload_n 0, 1) := by decide +kernel
theorem dX9_act_79 : decode cX9_act 79 = .ok (.getfield 62, 3) := by decide +kernel
theorem dX9_act_82 : decode cX9_act 82 = .ok (.getfield 309, 3) := by decide +kernel
theorem dX9_act_85 : decode cX9_act 85 = .ok (.iload_n 3, 1) := by decide +kernel
theorem dX9_act_86 : decode cX9_act 86 = .ok (.iconst 0, 1) := by decide +kernel
theorem dX9_act_87 : decode cX9_act 87 = .ok (.invokestatic 316, 3) := by decide +kernel
theorem dX9_act_90 : decode cX9_act 90 = .ok (.ireturn, 1) := by decide +kernel
theorem dX9_trace_0 : decode cX9_trace 0 = .ok (.aload_n 0, 1) := by decide +kernel
theorem dX9_trace_1 : decode cX9_trace 1 = .ok (.getfield 62, 3) := by decide +kernel
theorem dX9_trace_4 : decode cX9_trace 4 = .ok (.getfield 320, 3) := by decide +kernel
theorem dX9_trace_7 : decode cX9_trace 7 = .ok (.iload_n 1, 1) := by decide +kernel
theorem dX9_trace_8 : decode cX9_trace 8 = .ok (.invokevirtual 109, 3) := by decide +kernel
theorem dX9_trace_11 : decode cX9_trace 11 = .ok (.ireturn, 1) := by decide +kernel
theorem dX9_taken_0 : decode cX9_taken 0 = .ok (.iload_n 2, 1) := by decide +kernel
theorem dX9_taken_1 : decode cX9_taken 1 = .ok (.invokestatic 74, 3) := by decide +kernel
theorem dX9_taken_4 : decode cX9_taken 4 = .ok (.ifCond .ne 6, 3) := by decide +kernel
theorem dX9_taken_7 : decode cX9_taken 7 = .ok (.bipush (-2), 2) := by decide +kernel
theorem dX9_taken_9 : decode cX9_taken 9 = .ok (.ireturn, 1) := by decide +kernel
theorem dX9_taken_10 : decode cX9_taken 10 = .ok (.aload_n 0, 1) := by decide +kernel
theorem dX9_taken_11 : decode cX9_taken 11 = .ok (.getfield 12, 3) := by decide +kernel
theorem dX9_taken_14 : decode cX9_taken 14 = .ok (.iload_n 1, 1) := by decide +kernel
theorem dX9_taken_15 : decode cX9_taken 15 = .ok (.invokevirtual 102, 3) := by decide +kernel
theorem dX9_taken_18 : decode cX9_taken 18 = .ok (.ifCond .ne 6, 3) := by decide +kernel
theorem dX9_taken_21 : decode cX9_taken 21 = .ok (.bipush (-11), 2) := by decide +kernel
theorem dX9_taken_23 : decode cX9_taken 23 = .ok (.ireturn, 1) := by decide +kernel
theorem dX9_taken_24 : decode cX9_taken 24 = .ok (.aload_n 0, 1) := by decide +kernel
theorem dX9_taken_25 : decode cX9_taken 25 = .ok (.getfield 12, 3) := by decide +kernel
theorem dX9_taken_28 : decode cX9_taken 28 = .ok (.getfield 105, 3) := by decide +kernel
theorem dX9_taken_31 : decode cX9_taken 31 = .ok (.iload_n 1, 1) := by decide +kernel
theorem dX9_taken_32 : decode cX9_taken 32 = .ok (.invokevirtual 109, 3) := by decide +kernel
theorem dX9_taken_35 : decode cX9_taken 35 = .ok (.istore_n 3, 1) := by decide +kernel
theorem dX9_taken_36 : decode cX9_taken 36 = .ok (.iload_n 3, 1) := by decide +kernel
theorem dX9_taken_37 : decode cX9_taken 37 = .ok (.iload_n 2, 1) := by decide +kernel
theorem dX9_taken_38 : decode cX9_taken 38 = .ok (.invokestatic 323, 3) := by decide +kernel
theorem dX9_taken_41 : decode cX9_taken 41 = .ok (.ifCond .eq 7, 3) := by decide +kernel
theorem dX9_taken_44 : decode cX9_taken 44 = .ok (.iload_n 3, 1) := by decide +kernel
theorem dX9_taken_45 : decode cX9_taken 45 = .ok (.goto 5, 3) := by decide +kernel
theorem dX9_taken_48 : decode cX9_taken 48 = .ok (.bipush (-12), 2) := by decide +kernel
theorem dX9_taken_50 : decode cX9_taken 50 = .ok (.ireturn, 1) := by decide +kernel
theorem dX9_count_0 : decode cX9_count 0 = .ok (.iload_n 1, 1) := by decide +kernel
theorem dX9_count_1 : decode cX9_count 1 = .ok (.tableswitch 117 0 7 #[47, 55, 60, 71, 82, 93, 101, 109], 47) := by decide +kernel
theorem dX9_count_48 : decode cX9_count 48 = .ok (.aload_n 0, 1) := by decide +kernel
theorem dX9_count_49 : decode cX9_count 49 = .ok (.getfield 12, 3) := by decide +kernel
theorem dX9_count_52 : decode cX9_count 52 = .ok (.invokevirtual 94, 3) := by decide +kernel
theorem dX9_count_55 : decode cX9_count 55 = .ok (.ireturn, 1) := by decide +kernel
theorem dX9_count_56 : decode cX9_count 56 = .ok (.aload_n 0, 1) := by decide +kernel
theorem dX9_count_57 : decode cX9_count 57 = .ok (.getfield 41, 3) := by decide +kernel
theorem dX9_count_60 : decode cX9_count 60 = .ok (.ireturn, 1) := by decide +kernel
theorem dX9_count_61 : decode cX9_count 61 = .ok (.aload_n 0, 1) := by decide +kernel
theorem dX9_count_62 : decode cX9_count 62 = .ok (.getfield 12, 3) := by decide +kernel
theorem dX9_count_65 : decode cX9_count 65 = .ok (.getfield 206, 3) := by decide +kernel
theorem dX9_count_68 : decode cX9_count 68 = .ok (.getfield 165, 3) := by decide +kernel
theorem dX9_count_71 : decode cX9_count 71 = .ok (.ireturn, 1) := by decide +kernel
theorem dX9_count_72 : decode cX9_count 72 = .ok (.aload_n 0, 1) := by decide +kernel
theorem dX9_count_73 : decode cX9_count 73 = .ok (.getfield 12, 3) := by decide +kernel
theorem dX9_count_76 : decode cX9_count 76 = .ok (.getfield 280, 3) := by decide +kernel
theorem dX9_count_79 : decode cX9_count 79 = .ok (.getfield 165, 3) := by decide +kernel
theorem dX9_count_82 : decode cX9_count 82 = .ok (.ireturn, 1) := by decide +kernel
theorem dX9_count_83 : decode cX9_count 83 = .ok (.aload_n 0, 1) := by decide +kernel
theorem dX9_count_84 : decode cX9_count 84 = .ok (.getfield 31, 3) := by decide +kernel
theorem dX9_count_87 : decode cX9_count 87 = .ok (.getfield 162, 3) := by decide +kernel
theorem dX9_count_90 : decode cX9_count 90 = .ok (.getfield 165, 3) := by decide +kernel
theorem dX9_count_93 : decode cX9_count 93 = .ok (.ireturn, 1) := by decide +kernel
theorem dX9_count_94 : decode cX9_count 94 = .ok (.aload_n 0, 1) := by decide +kernel
theorem dX9_count_95 : decode cX9_count 95 = .ok (.getfield 12, 3) := by decide +kernel
theorem dX9_count_98 : decode cX9_count 98 = .ok (.getfield 326, 3) := by decide +kernel
theorem dX9_count_101 : decode cX9_count 101 = .ok (.ireturn, 1) := by decide +kernel
theorem dX9_count_102 : decode cX9_count 102 = .ok (.aload_n 0, 1) := by decide +kernel
theorem dX9_count_103 : decode cX9_count 103 = .ok (.getfield 62, 3) := by decide +kernel
theorem dX9_count_106 : decode cX9_count 106 = .ok (.getfield 329, 3) := by decide +kernel
theorem dX9_count_109 : decode cX9_count 109 = .ok (.ireturn, 1) := by decide +kernel
theorem dX9_count_110 : decode cX9_count 110 = .ok (.aload_n 0, 1) := by decide +kernel
theorem dX9_count_111 : decode cX9_count 111 = .ok (.getfield 12, 3) := by decide +kernel
theorem dX9_count_114 : decode cX9_count 114 = .ok (.getfield 88, 3) := by decide +kernel
theorem dX9_count_117 : decode cX9_count 117 = .ok (.ireturn, 1) := by decide +kernel
theorem dX9_count_118 : decode cX9_count 118 = .ok (.bipush (-2), 2) := by decide +kernel
theorem dX9_count_120 : decode cX9_count 120 = .ok (.ireturn, 1) := by decide +kernel
theorem dX9_tape_0 : decode cX9_tape 0 = .ok (.aload_n 0, 1) := by decide +kernel
theorem dX9_tape_1 : decode cX9_tape 1 = .ok (.iload_n 1, 1) := by decide +kernel
theorem dX9_tape_2 : decode cX9_tape 2 = .ok (.invokevirtual 286, 3) := by decide +kernel
theorem dX9_tape_5 : decode cX9_tape 5 = .ok (.astore 4, 2) := by decide +kernel
theorem dX9_tape_7 : decode cX9_tape 7 = .ok (.aload 4, 2) := by decide +kernel
theorem dX9_tape_9 : decode cX9_tape 9 = .ok (.ifnonnull 5, 3) := by decide +kernel
theorem dX9_tape_12 : decode cX9_tape 12 = .ok (.iconst (-1), 1) := by decide +kernel
theorem dX9_tape_13 : decode cX9_tape 13 = .ok (.ireturn, 1) := by decide +kernel
theorem dX9_tape_14 : decode cX9_tape 14 = .ok (.iload_n 2, 1) := by decide +kernel
theorem dX9_tape_15 : decode cX9_tape 15 = .ok (.iconst (-1), 1) := by decide +kernel
theorem dX9_tape_16 : decode cX9_tape 16 = .ok (.if_icmp .ne 10, 3) := by decide +kernel
theorem dX9_tape_19 : decode cX9_tape 19 = .ok (.aload 4, 2) := by decide +kernel
theorem dX9_tape_21 : decode cX9_tape 21 = .ok (.invokevirtual 332, 3) := by decide +kernel
theorem dX9_tape_24 : decode cX9_tape 24 = .ok (.iconst 1, 1) := by decide +kernel
theorem dX9_tape_25 : decode cX9_tape 25 = .ok (.ireturn, 1) := by decide +kernel
theorem dX9_tape_26 : decode cX9_tape 26 = .ok (.iload_n 2, 1) := by decide +kernel
theorem dX9_tape_27 : decode cX9_tape 27 = .ok (.iconst 0, 1) := by decide +kernel
theorem dX9_tape_28 : decode cX9_tape 28 = .ok (.iconst 4, 1) := by decide +kernel
theorem dX9_tape_29 : decode cX9_tape 29 = .ok (.invokestatic 81, 3) := by decide +kernel
theorem dX9_tape_32 : decode cX9_tape 32 = .ok (.ifCond .eq 9, 3) := by decide +kernel
theorem dX9_tape_35 : decode cX9_tape 35 = .ok (.iload_n 3, 1) := by decide +kernel
theorem dX9_tape_36 : decode cX9_tape 36 = .ok (.bipush 60, 2) := by decide +kernel
theorem dX9_tape_38 : decode cX9_tape 38 = .ok (.if_icmp .le 6, 3) := by decide +kernel
theorem dX9_tape_41 : decode cX9_tape 41 = .ok (.bipush (-2), 2) := by decide +kernel
theorem dX9_tape_43 : decode cX9_tape 43 = .ok (.ireturn, 1) := by decide +kernel
theorem dX9_tape_44 : decode cX9_tape 44 = .ok (.iload_n 3, 1) := by decide +kernel
theorem dX9_tape_45 : decode cX9_tape 45 = .ok (.ifCond .ge 6, 3) := by decide +kernel
theorem dX9_tape_48 : decode cX9_tape 48 = .ok (.bipush (-14), 2) := by decide +kernel
theorem dX9_tape_50 : decode cX9_tape 50 = .ok (.ireturn, 1) := by decide +kernel
theorem dX9_tape_51 : decode cX9_tape 51 = .ok (.aload 4, 2) := by decide +kernel
theorem dX9_tape_53 : decode cX9_tape 53 = .ok (.iload_n 2, 1) := by decide +kernel
theorem dX9_tape_54 : decode cX9_tape 54 = .ok (.iload_n 3, 1) := by decide +kernel
theorem dX9_tape_55 : decode cX9_tape 55 = .ok (.invokevirtual 335, 3) := by decide +kernel
theorem dX9_tape_58 : decode cX9_tape 58 = .ok (.iconst 1, 1) := by decide +kernel
theorem dX9_tape_59 : decode cX9_tape 59 = .ok (.ireturn, 1) := by decide +kernel
theorem dX9_item_0 : decode cX9_item 0 = .ok (.aload_n 0, 1) := by decide +kernel
theorem dX9_item_1 : decode cX9_item 1 = .ok (.iload_n 1, 1) := by decide +kernel
theorem dX9_item_2 : decode cX9_item 2 = .ok (.invokevirtual 286, 3) := by decide +kernel
theorem dX9_item_5 : decode cX9_item 5 = .ok (.astore 5, 2) := by decide +kernel
theorem dX9_item_7 : decode cX9_item 7 = .ok (.aload 5, 2) := by decide +kernel
theorem dX9_item_9 : decode cX9_item 9 = .ok (.ifnonnull 5, 3) := by decide +kernel
theorem dX9_item_12 : decode cX9_item 12 = .ok (.iconst (-1), 1) := by decide +kernel
theorem dX9_item_13 : decode cX9_item 13 = .ok (.ireturn, 1) := by decide +kernel
theorem dX9_item_14 : decode cX9_item 14 = .ok (.aload 5, 2) := by decide +kernel
theorem dX9_item_16 : decode cX9_item 16 = .ok (.invokevirtual 290, 3) := by decide +kernel
theorem dX9_item_19 : decode cX9_item 19 = .ok (.ifCond .ne 6, 3) := by decide +kernel
theorem dX9_item_22 : decode cX9_item 22 = .ok (.bipush (-11), 2) := by decide +kernel
theorem dX9_item_24 : decode cX9_item 24 = .ok (.ireturn, 1) := by decide +kernel
theorem dX9_item_25 : decode cX9_item 25 = .ok (.aload 5, 2) := by decide +kernel
theorem dX9_item_27 : decode cX9_item 27 = .ok (.iload_n 2, 1) := by decide +kernel
theorem dX9_item_28 : decode cX9_item 28 = .ok (.invokevirtual 299, 3) := by decide +kernel
theorem dX9_item_31 : decode cX9_item 31 = .ok (.ifCond .ne 6, 3) := by decide +kernel
theorem dX9_item_34 : decode cX9_item 34 = .ok (.bipush (-13), 2) := by decide +kernel
theorem dX9_item_36 : decode cX9_item 36 = .ok (.ireturn, 1) := by decide +kernel
theorem dX9_item_37 : decode cX9_item 37 = .ok (.aload 5, 2) := by decide +kernel
theorem dX9_item_39 : decode cX9_item 39 = .ok (.iload_n 2, 1) := by decide +kernel
theorem dX9_item_40 : decode cX9_item 40 = .ok (.lload_n 3, 1) := by decide +kernel
theorem dX9_item_41 : decode cX9_item 41 = .ok (.invokevirtual 338, 3) := by decide +kernel
theorem dX9_item_44 : decode cX9_item 44 = .ok (.iconst 1, 1) := by decide +kernel
theorem dX9_item_45 : decode cX9_item 45 = .ok (.ireturn, 1) := by decide +kernel
theorem dX9_read_0 : decode cX9_read 0 = .ok (.aload_n 0, 1) := by decide +kernel
theorem dX9_read_1 : decode cX9_read 1 = .ok (.iload_n 1, 1) := by decide +kernel
theorem dX9_read_2 : decode cX9_read 2 = .ok (.invokevirtual 286, 3) := by decide +kernel
theorem dX9_read_5 : decode cX9_read 5 = .ok (.astore_n 3, 1) := by decide +kernel
theorem dX9_read_6 : decode cX9_read 6 = .ok (.aload_n 3, 1) := by decide +kernel
theorem dX9_read_7 : decode cX9_read 7 = .ok (.ifnull 18, 3) := by decide +kernel
theorem dX9_read_10 : decode cX9_read 10 = .ok (.aload_n 3, 1) := by decide +kernel
theorem dX9_read_11 : decode cX9_read 11 = .ok (.invokevirtual 290, 3) := by decide +kernel
theorem dX9_read_14 : decode cX9_read 14 = .ok (.ifCond .eq 11, 3) := by decide +kernel
theorem dX9_read_17 : decode cX9_read 17 = .ok (.aload_n 3, 1) := by decide +kernel
theorem dX9_read_18 : decode cX9_read 18 = .ok (.iload_n 2, 1) := by decide +kernel
theorem dX9_read_19 : decode cX9_read 19 = .ok (.invokevirtual 299, 3) := by decide +kernel
theorem dX9_read_22 : decode cX9_read 22 = .ok (.ifCond .ne 7, 3) := by decide +kernel
theorem dX9_read_25 : decode cX9_read 25 = .ok (.ldc2_w 253, 3) := by decide +kernel
theorem dX9_read_28 : decode cX9_read 28 = .ok (.lreturn, 1) := by decide +kernel
theorem dX9_read_29 : decode cX9_read 29 = .ok (.aload_n 3, 1) := by decide +kernel
theorem dX9_read_30 : decode cX9_read 30 = .ok (.iload_n 2, 1) := by decide +kernel
theorem dX9_read_31 : decode cX9_read 31 = .ok (.invokevirtual 302, 3) := by decide +kernel
theorem dX9_read_34 : decode cX9_read 34 = .ok (.lreturn, 1) := by decide +kernel
theorem dX9_shift_0 : decode cX9_shift 0 = .ok (.aload_n 0, 1) := by decide +kernel
theorem dX9_shift_1 : decode cX9_shift 1 = .ok (.iload_n 1, 1) := by decide +kernel
theorem dX9_shift_2 : decode cX9_shift 2 = .ok (.invokevirtual 286, 3) := by decide +kernel
theorem dX9_shift_5 : decode cX9_shift 5 = .ok (.astore 6, 2) := by decide +kernel
theorem dX9_shift_7 : decode cX9_shift 7 = .ok (.aload_n 0, 1) := by decide +kernel
theorem dX9_shift_8 : decode cX9_shift 8 = .ok (.iload_n 3, 1) := by decide +kernel
theorem dX9_shift_9 : decode cX9_shift 9 = .ok (.invokevirtual 286, 3) := by decide +kernel
theorem dX9_shift_12 : decode cX9_shift 12 = .ok (.astore 7, 2) := by decide +kernel
theorem dX9_shift_14 : decode cX9_shift 14 = .ok (.aload 6, 2) := by decide +kernel
theorem dX9_shift_16 : decode cX9_shift 16 = .ok (.ifnull 8, 3) := by decide +kernel
theorem dX9_shift_19 : decode cX9_shift 19 = .ok (.aload 7, 2) := by decide +kernel
theorem dX9_shift_21 : decode cX9_shift 21 = .ok (.ifnonnull 5, 3) := by decide +kernel
theorem dX9_shift_24 : decode cX9_shift 24 = .ok (.iconst (-1), 1) := by decide +kernel
theorem dX9_shift_25 : decode cX9_shift 25 = .ok (.ireturn, 1) := by decide +kernel
theorem dX9_shift_26 : decode cX9_shift 26 = .ok (.aload 6, 2) := by decide +kernel
theorem dX9_shift_28 : decode cX9_shift 28 = .ok (.invokevirtual 290, 3) := by decide +kernel
theorem dX9_shift_31 : decode cX9_shift 31 = .ok (.ifCond .eq 11, 3) := by decide +kernel
theorem dX9_shift_34 : decode cX9_shift 34 = .ok (.aload 7, 2) := by decide +kernel
theorem dX9_shift_36 : decode cX9_shift 36 = .ok (.invokevirtual 290, 3) := by decide +kernel
theorem dX9_shift_39 : decode cX9_shift 39 = .ok (.ifCond .ne 6, 3) := by decide +kernel
theorem dX9_shift_42 : decode cX9_shift 42 = .ok (.bipush (-11), 2) := by decide +kernel
theorem dX9_shift_44 : decode cX9_shift 44 = .ok (.ireturn, 1) := by decide +kernel
theorem dX9_shift_45 : decode cX9_shift 45 = .ok (.aload 6, 2) := by decide +kernel
theorem dX9_shift_47 : decode cX9_shift 47 = .ok (.getfield 293, 3) := by decide +kernel
theorem dX9_shift_50 : decode cX9_shift 50 = .ok (.aload 7, 2) := by decide +kernel
theorem dX9_shift_52 : decode cX9_shift 52 = .ok (.getfield 293, 3) := by decide +kernel
theorem dX9_shift_55 : decode cX9_shift 55 = .ok (.if_icmp .eq 6, 3) := by decide +kernel
theorem dX9_shift_58 : decode cX9_shift 58 = .ok (.bipush (-12), 2) := by decide +kernel
theorem dX9_shift_60 : decode cX9_shift 60 = .ok (.ireturn, 1) := by decide +kernel
theorem dX9_shift_61 : decode cX9_shift 61 = .ok (.aload 6, 2) := by decide +kernel
theorem dX9_shift_63 : decode cX9_shift 63 = .ok (.iload_n 2, 1) := by decide +kernel
theorem dX9_shift_64 : decode cX9_shift 64 = .ok (.iload 5, 2) := by decide +kernel
theorem dX9_shift_66 : decode cX9_shift 66 = .ok (.invokevirtual 341, 3) := by decide +kernel
theorem dX9_shift_69 : decode cX9_shift 69 = .ok (.ifCond .eq 15, 3) := by decide +kernel
theorem dX9_shift_72 : decode cX9_shift 72 = .ok (.aload 7, 2) := by decide +kernel
theorem dX9_shift_74 : decode cX9_shift 74 = .ok (.iload 4, 2) := by decide +kernel
theorem dX9_shift_76 : decode cX9_shift 76 = .ok (.iload 5, 2) := by decide +kernel
theorem dX9_shift_78 : decode cX9_shift 78 = .ok (.invokevirtual 341, 3) := by decide +kernel
theorem dX9_shift_81 : decode cX9_shift 81 = .ok (.ifCond .ne 6, 3) := by decide +kernel
theorem dX9_shift_84 : decode cX9_shift 84 = .ok (.bipush (-13), 2) := by decide +kernel
theorem dX9_shift_86 : decode cX9_shift 86 = .ok (.ireturn, 1) := by decide +kernel
theorem dX9_shift_87 : decode cX9_shift 87 = .ok (.aload 7, 2) := by decide +kernel
theorem dX9_shift_89 : decode cX9_shift 89 = .ok (.aload 6, 2) := by decide +kernel
theorem dX9_shift_91 : decode cX9_shift 91 = .ok (.iload_n 2, 1) := by decide +kernel
theorem dX9_shift_92 : decode cX9_shift 92 = .ok (.iload 4, 2) := by decide +kernel
theorem dX9_shift_94 : decode cX9_shift 94 = .ok (.iload 5, 2) := by decide +kernel
theorem dX9_shift_96 : decode cX9_shift 96 = .ok (.invokevirtual 344, 3) := by decide +kernel
theorem dX9_shift_99 : decode cX9_shift 99 = .ok (.iload 5, 2) := by decide +kernel
theorem dX9_shift_101 : decode cX9_shift 101 = .ok (.ireturn, 1) := by decide +kernel
theorem dX9_tapeAt_0 : decode cX9_tapeAt 0 = .ok (.iload_n 1, 1) := by decide +kernel
theorem dX9_tapeAt_1 : decode cX9_tapeAt 1 = .ok (.ifCond .lt 27, 3) := by decide +kernel
theorem dX9_tapeAt_4 : decode cX9_tapeAt 4 = .ok (.iload_n 1, 1) := by decide +kernel
theorem dX9_tapeAt_5 : decode cX9_tapeAt 5 = .ok (.bipush 6, 2) := by decide +kernel
theorem dX9_tapeAt_7 : decode cX9_tapeAt 7 = .ok (.if_icmp .ge 21, 3) := by decide +kernel
theorem dX9_tapeAt_10 : decode cX9_tapeAt 10 = .ok (.iload_n 1, 1) := by decide +kernel
theorem dX9_tapeAt_11 : decode cX9_tapeAt 11 = .ok (.aload_n 0, 1) := by decide +kernel
theorem dX9_tapeAt_12 : decode cX9_tapeAt 12 = .ok (.getfield 68, 3) := by decide +kernel
theorem dX9_tapeAt_15 : decode cX9_tapeAt 15 = .ok (.arraylength, 1) := by decide +kernel
theorem dX9_tapeAt_16 : decode cX9_tapeAt 16 = .ok (.if_icmp .ge 12, 3) := by decide +kernel
theorem dX9_tapeAt_19 : decode cX9_tapeAt 19 = .ok (.aload_n 0, 1) := by decide +kernel
theorem dX9_tapeAt_20 : decode cX9_tapeAt 20 = .ok (.getfield 68, 3) := by decide +kernel
theorem dX9_tapeAt_23 : decode cX9_tapeAt 23 = .ok (.iload_n 1, 1) := by decide +kernel
theorem dX9_tapeAt_24 : decode cX9_tapeAt 24 = .ok (.aaload, 1) := by decide +kernel
theorem dX9_tapeAt_25 : decode cX9_tapeAt 25 = .ok (.goto 4, 3) := by decide +kernel
theorem dX9_tapeAt_28 : decode cX9_tapeAt 28 = .ok (.aconst_null, 1) := by decide +kernel
theorem dX9_tapeAt_29 : decode cX9_tapeAt 29 = .ok (.areturn, 1) := by decide +kernel
theorem dX9_isWithin_0 : decode cX9_isWithin 0 = .ok (.iload_n 0, 1) := by decide +kernel
theorem dX9_isWithin_1 : decode cX9_isWithin 1 = .ok (.iload_n 1, 1) := by decide +kernel
theorem dX9_isWithin_2 : decode cX9_isWithin 2 = .ok (.if_icmp .lt 12, 3) := by decide +kernel
theorem dX9_isWithin_5 : decode cX9_isWithin 5 = .ok (.iload_n 0, 1) := by decide +kernel
theorem dX9_isWithin_6 : decode cX9_isWithin 6 = .ok (.iload_n 2, 1) := by decide +kernel
theorem dX9_isWithin_7 : decode cX9_isWithin 7 = .ok (.if_icmp .gt 7, 3) := by decide +kernel
theorem dX9_isWithin_10 : decode cX9_isWithin 10 = .ok (.iconst 1, 1) := by decide +kernel
theorem dX9_isWithin_11 : decode cX9_isWithin 11 = .ok (.goto 4, 3) := by decide +kernel
theorem dX9_isWithin_14 : decode cX9_isWithin 14 = .ok (.iconst 0, 1) := by decide +kernel
theorem dX9_isWithin_15 : decode cX9_isWithin 15 = .ok (.ireturn, 1) := by decide +kernel
theorem dX9_isCell_0 : decode cX9_isCell 0 = .ok (.iload_n 0, 1) := by decide +kernel
theorem dX9_isCell_1 : decode cX9_isCell 1 = .ok (.iconst 0, 1) := by decide +kernel
theorem dX9_isCell_2 : decode cX9_isCell 2 = .ok (.bipush 35, 2) := by decide +kernel
theorem dX9_isCell_4 : decode cX9_isCell 4 = .ok (.invokestatic 81, 3) := by decide +kernel
theorem dX9_isCell_7 : decode cX9_isCell 7 = .ok (.ireturn, 1) := by decide +kernel
theorem dX9_isKind_0 : decode cX9_isKind 0 = .ok (.iload_n 0, 1) := by decide +kernel
theorem dX9_isKind_1 : decode cX9_isKind 1 = .ok (.iconst 0, 1) := by decide +kernel
theorem dX9_isKind_2 : decode cX9_isKind 2 = .ok (.bipush 6, 2) := by decide +kernel
theorem dX9_isKind_4 : decode cX9_isKind 4 = .ok (.invokestatic 81, 3) := by decide +kernel
theorem dX9_isKind_7 : decode cX9_isKind 7 = .ok (.ireturn, 1) := by decide +kernel
theorem dX9_power_0 : decode cX9_power 0 = .ok (.lconst 1, 1) := by decide +kernel
theorem dX9_power_1 : decode cX9_power 1 = .ok (.lstore_n 2, 1) := by decide +kernel
theorem dX9_power_2 : decode cX9_power 2 = .ok (.iconst 0, 1) := by decide +kernel
theorem dX9_power_3 : decode cX9_power 3 = .ok (.istore 4, 2) := by decide +kernel
theorem dX9_power_5 : decode cX9_power 5 = .ok (.iload 4, 2) := by decide +kernel
theorem dX9_power_7 : decode cX9_power 7 = .ok (.iload_n 1, 1) := by decide +kernel
theorem dX9_power_8 : decode cX9_power 8 = .ok (.if_icmp .ge 14, 3) := by decide +kernel
theorem dX9_power_11 : decode cX9_power 11 = .ok (.lload_n 2, 1) := by decide +kernel
theorem dX9_power_12 : decode cX9_power 12 = .ok (.iload_n 0, 1) := by decide +kernel
theorem dX9_power_13 : decode cX9_power 13 = .ok (.i2l, 1) := by decide +kernel
theorem dX9_power_14 : decode cX9_power 14 = .ok (.lmul, 1) := by decide +kernel
theorem dX9_power_15 : decode cX9_power 15 = .ok (.lstore_n 2, 1) := by decide +kernel
theorem dX9_power_16 : decode cX9_power 16 = .ok (.iinc 4 1, 3) := by decide +kernel
theorem dX9_power_19 : decode cX9_power 19 = .ok (.goto (-14), 3) := by decide +kernel
theorem dX9_power_22 : decode cX9_power 22 = .ok (.lload_n 2, 1) := by decide +kernel
theorem dX9_power_23 : decode cX9_power 23 = .ok (.lreturn, 1) := by decide +kernel
theorem dX9_sharedDivisor_0 : decode cX9_sharedDivisor 0 = .ok (.lload_n 0, 1) := by decide +kernel
theorem dX9_sharedDivisor_1 : decode cX9_sharedDivisor 1 = .ok (.lstore 4, 2) := by decide +kernel
theorem dX9_sharedDivisor_3 : decode cX9_sharedDivisor 3 = .ok (.lload_n 2, 1) := by decide +kernel
theorem dX9_sharedDivisor_4 : decode cX9_sharedDivisor 4 = .ok (.lstore 6, 2) := by decide +kernel
theorem dX9_sharedDivisor_6 : decode cX9_sharedDivisor 6 = .ok (.iconst 0, 1) := by decide +kernel
theorem dX9_sharedDivisor_7 : decode cX9_sharedDivisor 7 = .ok (.istore 8, 2) := by decide +kernel
theorem dX9_sharedDivisor_9 : decode cX9_sharedDivisor 9 = .ok (.iload 8, 2) := by decide +kernel
theorem dX9_sharedDivisor_11 : decode cX9_sharedDivisor 11 = .ok (.sipush 200, 3) := by decide +kernel
theorem dX9_sharedDivisor_14 : decode cX9_sharedDivisor 14 = .ok (.if_icmp .ge 31, 3) := by decide +kernel
theorem dX9_sharedDivisor_17 : decode cX9_sharedDivisor 17 = .ok (.lload 6, 2) := by decide +kernel
theorem dX9_sharedDivisor_19 : decode cX9_sharedDivisor 19 = .ok (.lconst 0, 1) := by decide +kernel
theorem dX9_sharedDivisor_20 : decode cX9_sharedDivisor 20 = .ok (.lcmp, 1) := by decide +kernel
theorem dX9_sharedDivisor_21 : decode cX9_sharedDivisor 21 = .ok (.ifCond .eq 24, 3) := by decide +kernel
theorem dX9_sharedDivisor_24 : decode cX9_sharedDivisor 24 = .ok (.lload 4, 2) := by decide +kernel
theorem dX9_sharedDivisor_26 : decode cX9_sharedDivisor 26 = .ok (.lload 6, 2) := by decide +kernel
theorem dX9_sharedDivisor_28 : decode cX9_sharedDivisor 28 = .ok (.lrem, 1) := by decide +kernel
theorem dX9_sharedDivisor_29 : decode cX9_sharedDivisor 29 = .ok (.lstore 9, 2) := by decide +kernel
theorem dX9_sharedDivisor_31 : decode cX9_sharedDivisor 31 = .ok (.lload 6, 2) := by decide +kernel
theorem dX9_sharedDivisor_33 : decode cX9_sharedDivisor 33 = .ok (.lstore 4, 2) := by decide +kernel
theorem dX9_sharedDivisor_35 : decode cX9_sharedDivisor 35 = .ok (.lload 9, 2) := by decide +kernel
theorem dX9_sharedDivisor_37 : decode cX9_sharedDivisor 37 = .ok (.lstore 6, 2) := by decide +kernel
theorem dX9_sharedDivisor_39 : decode cX9_sharedDivisor 39 = .ok (.iinc 8 1, 3) := by decide +kernel
theorem dX9_sharedDivisor_42 : decode cX9_sharedDivisor 42 = .ok (.goto (-33), 3) := by decide +kernel
theorem dX9_sharedDivisor_45 : decode cX9_sharedDivisor 45 = .ok (.lload 4, 2) := by decide +kernel
theorem dX9_sharedDivisor_47 : decode cX9_sharedDivisor 47 = .ok (.lreturn, 1) := by decide +kernel
theorem dX9_farOf_0 : decode cX9_farOf 0 = .ok (.iload_n 0, 1) := by decide +kernel
theorem dX9_farOf_1 : decode cX9_farOf 1 = .ok (.bipush 6, 2) := by decide +kernel
theorem dX9_farOf_3 : decode cX9_farOf 3 = .ok (.idiv, 1) := by decide +kernel
theorem dX9_farOf_4 : decode cX9_farOf 4 = .ok (.iload_n 1, 1) := by decide +kernel
theorem dX9_farOf_5 : decode cX9_farOf 5 = .ok (.bipush 6, 2) := by decide +kernel
theorem dX9_farOf_7 : decode cX9_farOf 7 = .ok (.idiv, 1) := by decide +kernel
theorem dX9_farOf_8 : decode cX9_farOf 8 = .ok (.isub, 1) := by decide +kernel
theorem dX9_farOf_9 : decode cX9_farOf 9 = .ok (.invokestatic 348, 3) := by decide +kernel
theorem dX9_farOf_12 : decode cX9_farOf 12 = .ok (.iload_n 0, 1) := by decide +kernel
theorem dX9_farOf_13 : decode cX9_farOf 13 = .ok (.bipush 6, 2) := by decide +kernel
theorem dX9_farOf_15 : decode cX9_farOf 15 = .ok (.irem, 1) := by decide +kernel
theorem dX9_farOf_16 : decode cX9_farOf 16 = .ok (.iload_n 1, 1) := by decide +kernel
theorem dX9_farOf_17 : decode cX9_farOf 17 = .ok (.bipush 6, 2) := by decide +kernel
theorem dX9_farOf_19 : decode cX9_farOf 19 = .ok (.irem, 1) := by decide +kernel
theorem dX9_farOf_20 : decode cX9_farOf 20 = .ok (.isub, 1) := by decide +kernel
theorem dX9_farOf_21 : decode cX9_farOf 21 = .ok (.invokestatic 348, 3) := by decide +kernel
theorem dX9_farOf_24 : decode cX9_farOf 24 = .ok (.invokestatic 353, 3) := by decide +kernel
theorem dX9_farOf_27 : decode cX9_farOf 27 = .ok (.ireturn, 1) := by decide +kernel
theorem dX9_roundOf_0 : decode cX9_roundOf 0 = .ok (.iload_n 0, 1) := by decide +kernel
theorem dX9_roundOf_1 : decode cX9_roundOf 1 = .ok (.bipush 6, 2) := by decide +kernel
theorem dX9_roundOf_3 : decode cX9_roundOf 3 = .ok (.idiv, 1) := by decide +kernel
theorem dX9_roundOf_4 : decode cX9_roundOf 4 = .ok (.iload_n 1, 1) := by decide +kernel
theorem dX9_roundOf_5 : decode cX9_roundOf 5 = .ok (.bipush 6, 2) := by decide +kernel
theorem dX9_roundOf_7 : decode cX9_roundOf 7 = .ok (.idiv, 1) := by decide +kernel
theorem dX9_roundOf_8 : decode cX9_roundOf 8 = .ok (.isub, 1) := by decide +kernel
theorem dX9_roundOf_9 : decode cX9_roundOf 9 = .ok (.invokestatic 348, 3) := by decide +kernel
theorem dX9_roundOf_12 : decode cX9_roundOf 12 = .ok (.iload_n 0, 1) := by decide +kernel
theorem dX9_roundOf_13 : decode cX9_roundOf 13 = .ok (.bipush 6, 2) := by decide +kernel
theorem dX9_roundOf_15 : decode cX9_roundOf 15 = .ok (.irem, 1) := by decide +kernel
theorem dX9_roundOf_16 : decode cX9_roundOf 16 = .ok (.iload_n 1, 1) := by decide +kernel
theorem dX9_roundOf_17 : decode cX9_roundOf 17 = .ok (.bipush 6, 2) := by decide +kernel
theorem dX9_roundOf_19 : decode cX9_roundOf 19 = .ok (.irem, 1) := by decide +kernel
theorem dX9_roundOf_20 : decode cX9_roundOf 20 = .ok (.isub, 1) := by decide +kernel
theorem dX9_roundOf_21 : decode cX9_roundOf 21 = .ok (.invokestatic 348, 3) := by decide +kernel
theorem dX9_roundOf_24 : decode cX9_roundOf 24 = .ok (.iadd, 1) := by decide +kernel
theorem dX9_roundOf_25 : decode cX9_roundOf 25 = .ok (.ireturn, 1) := by decide +kernel
theorem dX9_nextTo_0 : decode cX9_nextTo 0 = .ok (.iload_n 1, 1) := by decide +kernel
theorem dX9_nextTo_1 : decode cX9_nextTo 1 = .ok (.tableswitch 73 0 2 #[27, 42, 57], 27) := by decide +kernel
theorem dX9_nextTo_28 : decode cX9_nextTo 28 = .ok (.iload_n 0, 1) := by decide +kernel
theorem dX9_nextTo_29 : decode cX9_nextTo 29 = .ok (.bipush 6, 2) := by decide +kernel
theorem dX9_nextTo_31 : decode cX9_nextTo 31 = .ok (.if_icmp .lt 10, 3) := by decide +kernel
theorem dX9_nextTo_34 : decode cX9_nextTo 34 = .ok (.iload_n 0, 1) := by decide +kernel
theorem dX9_nextTo_35 : decode cX9_nextTo 35 = .ok (.bipush 6, 2) := by decide +kernel
theorem dX9_nextTo_37 : decode cX9_nextTo 37 = .ok (.isub, 1) := by decide +kernel
theorem dX9_nextTo_38 : decode cX9_nextTo 38 = .ok (.goto 4, 3) := by decide +kernel
theorem dX9_nextTo_41 : decode cX9_nextTo 41 = .ok (.iconst (-1), 1) := by decide +kernel
theorem dX9_nextTo_42 : decode cX9_nextTo 42 = .ok (.ireturn, 1) := by decide +kernel
theorem dX9_nextTo_43 : decode cX9_nextTo 43 = .ok (.iload_n 0, 1) := by decide +kernel
theorem dX9_nextTo_44 : decode cX9_nextTo 44 = .ok (.bipush 6, 2) := by decide +kernel
theorem dX9_nextTo_46 : decode cX9_nextTo 46 = .ok (.irem, 1) := by decide +kernel
theorem dX9_nextTo_47 : decode cX9_nextTo 47 = .ok (.ifCond .le 9, 3) := by decide +kernel
theorem dX9_nextTo_50 : decode cX9_nextTo 50 = .ok (.iload_n 0, 1) := by decide +kernel
theorem dX9_nextTo_51 : decode cX9_nextTo 51 = .ok (.iconst 1, 1) := by decide +kernel
theorem dX9_nextTo_52 : decode cX9_nextTo 52 = .ok (.isub, 1) := by decide +kernel
theorem dX9_nextTo_53 : decode cX9_nextTo 53 = .ok (.goto 4, 3) := by decide +kernel
theorem dX9_nextTo_56 : decode cX9_nextTo 56 = .ok (.iconst (-1), 1) := by decide +kernel
theorem dX9_nextTo_57 : decode cX9_nextTo 57 = .ok (.ireturn, 1) := by decide +kernel
theorem dX9_nextTo_58 : decode cX9_nextTo 58 = .ok (.iload_n 0, 1) := by decide +kernel
theorem dX9_nextTo_59 : decode cX9_nextTo 59 = .ok (.bipush 6, 2) := by decide +kernel
theorem dX9_nextTo_61 : decode cX9_nextTo 61 = .ok (.irem, 1) := by decide +kernel
theorem dX9_nextTo_62 : decode cX9_nextTo 62 = .ok (.iconst 5, 1) := by decide +kernel
theorem dX9_nextTo_63 : decode cX9_nextTo 63 = .ok (.if_icmp .ge 9, 3) := by decide +kernel
theorem dX9_nextTo_66 : decode cX9_nextTo 66 = .ok (.iload_n 0, 1) := by decide +kernel
theorem dX9_nextTo_67 : decode cX9_nextTo 67 = .ok (.iconst 1, 1) := by decide +kernel
theorem dX9_nextTo_68 : decode cX9_nextTo 68 = .ok (.iadd, 1) := by decide +kernel
theorem dX9_nextTo_69 : decode cX9_nextTo 69 = .ok (.goto 4, 3) := by decide +kernel
theorem dX9_nextTo_72 : decode cX9_nextTo 72 = .ok (.iconst (-1), 1) := by decide +kernel
theorem dX9_nextTo_73 : decode cX9_nextTo 73 = .ok (.ireturn, 1) := by decide +kernel
theorem dX9_nextTo_74 : decode cX9_nextTo 74 = .ok (.iload_n 0, 1) := by decide +kernel
theorem dX9_nextTo_75 : decode cX9_nextTo 75 = .ok (.bipush 30, 2) := by decide +kernel
theorem dX9_nextTo_77 : decode cX9_nextTo 77 = .ok (.if_icmp .ge 10, 3) := by decide +kernel
theorem dX9_nextTo_80 : decode cX9_nextTo 80 = .ok (.iload_n 0, 1) := by decide +kernel
theorem dX9_nextTo_81 : decode cX9_nextTo 81 = .ok (.bipush 6, 2) := by decide +kernel
theorem dX9_nextTo_83 : decode cX9_nextTo 83 = .ok (.iadd, 1) := by decide +kernel
theorem dX9_nextTo_84 : decode cX9_nextTo 84 = .ok (.goto 4, 3) := by decide +kernel
theorem dX9_nextTo_87 : decode cX9_nextTo 87 = .ok (.iconst (-1), 1) := by decide +kernel
theorem dX9_nextTo_88 : decode cX9_nextTo 88 = .ok (.ireturn, 1) := by decide +kernel
theorem dX9_stepToward_0 : decode cX9_stepToward 0 = .ok (.iconst 0, 1) := by decide +kernel
theorem dX9_stepToward_1 : decode cX9_stepToward 1 = .ok (.istore_n 2, 1) := by decide +kernel
theorem dX9_stepToward_2 : decode cX9_stepToward 2 = .ok (.iload_n 2, 1) := by decide +kernel
theorem dX9_stepToward_3 : decode cX9_stepToward 3 = .ok (.iconst 4, 1) := by decide +kernel
theorem dX9_stepToward_4 : decode cX9_stepToward 4 = .ok (.if_icmp .ge 35, 3) := by decide +kernel
theorem dX9_stepToward_7 : decode cX9_stepToward 7 = .ok (.iload_n 0, 1) := by decide +kernel
theorem dX9_stepToward_8 : decode cX9_stepToward 8 = .ok (.iload_n 2, 1) := by decide +kernel
theorem dX9_stepToward_9 : decode cX9_stepToward 9 = .ok (.invokestatic 356, 3) := by decide +kernel
theorem dX9_stepToward_12 : decode cX9_stepToward 12 = .ok (.istore_n 3, 1) := by decide +kernel
theorem dX9_stepToward_13 : decode cX9_stepToward 13 = .ok (.iload_n 3, 1) := by decide +kernel
theorem dX9_stepToward_14 : decode cX9_stepToward 14 = .ok (.iconst (-1), 1) := by decide +kernel
theorem dX9_stepToward_15 : decode cX9_stepToward 15 = .ok (.if_icmp .eq 18, 3) := by decide +kernel
theorem dX9_stepToward_18 : decode cX9_stepToward 18 = .ok (.iload_n 3, 1) := by decide +kernel
theorem dX9_stepToward_19 : decode cX9_stepToward 19 = .ok (.iload_n 1, 1) := by decide +kernel
theorem dX9_stepToward_20 : decode cX9_stepToward 20 = .ok (.invokestatic 240, 3) := by decide +kernel
theorem dX9_stepToward_23 : decode cX9_stepToward 23 = .ok (.iload_n 0, 1) := by decide +kernel
theorem dX9_stepToward_24 : decode cX9_stepToward 24 = .ok (.iload_n 1, 1) := by decide +kernel
theorem dX9_stepToward_25 : decode cX9_stepToward 25 = .ok (.invokestatic 240, 3) := by decide +kernel
theorem dX9_stepToward_28 : decode cX9_stepToward 28 = .ok (.if_icmp .ge 5, 3) := by decide +kernel
theorem dX9_stepToward_31 : decode cX9_stepToward 31 = .ok (.iload_n 3, 1) := by decide +kernel
theorem dX9_stepToward_32 : decode cX9_stepToward 32 = .ok (.ireturn, 1) := by decide +kernel
theorem dX9_stepToward_33 : decode cX9_stepToward 33 = .ok (.iinc 2 1, 3) := by decide +kernel
theorem dX9_stepToward_36 : decode cX9_stepToward 36 = .ok (.goto (-34), 3) := by decide +kernel
theorem dX9_stepToward_39 : decode cX9_stepToward 39 = .ok (.iload_n 0, 1) := by decide +kernel
theorem dX9_stepToward_40 : decode cX9_stepToward 40 = .ok (.ireturn, 1) := by decide +kernel
theorem dX9_farthestCorner_0 : decode cX9_farthestCorner 0 = .ok (.iconst 0, 1) := by decide +kernel
theorem dX9_farthestCorner_1 : decode cX9_farthestCorner 1 = .ok (.istore_n 1, 1) := by decide +kernel
theorem dX9_farthestCorner_2 : decode cX9_farthestCorner 2 = .ok (.iload_n 1, 1) := by decide +kernel
theorem dX9_farthestCorner_3 : decode cX9_farthestCorner 3 = .ok (.iconst 5, 1) := by decide +kernel
theorem dX9_farthestCorner_4 : decode cX9_farthestCorner 4 = .ok (.iload_n 0, 1) := by decide +kernel
theorem dX9_farthestCorner_5 : decode cX9_farthestCorner 5 = .ok (.invokestatic 359, 3) := by decide +kernel
theorem dX9_farthestCorner_8 : decode cX9_farthestCorner 8 = .ok (.istore_n 1, 1) := by decide +kernel
theorem dX9_farthestCorner_9 : decode cX9_farthestCorner 9 = .ok (.iload_n 1, 1) := by decide +kernel
theorem dX9_farthestCorner_10 : decode cX9_farthestCorner 10 = .ok (.bipush 30, 2) := by decide +kernel
theorem dX9_farthestCorner_12 : decode cX9_farthestCorner 12 = .ok (.iload_n 0, 1) := by decide +kernel
theorem dX9_farthestCorner_13 : decode cX9_farthestCorner 13 = .ok (.invokestatic 359, 3) := by decide +kernel
theorem dX9_farthestCorner_16 : decode cX9_farthestCorner 16 = .ok (.istore_n 1, 1) := by decide +kernel
theorem dX9_farthestCorner_17 : decode cX9_farthestCorner 17 = .ok (.iload_n 1, 1) := by decide +kernel
theorem dX9_farthestCorner_18 : decode cX9_farthestCorner 18 = .ok (.bipush 35, 2) := by decide +kernel
theorem dX9_farthestCorner_20 : decode cX9_farthestCorner 20 = .ok (.iload_n 0, 1) := by decide +kernel
theorem dX9_farthestCorner_21 : decode cX9_farthestCorner 21 = .ok (.invokestatic 359, 3) := by decide +kernel
theorem dX9_farthestCorner_24 : decode cX9_farthestCorner 24 = .ok (.ireturn, 1) := by decide +kernel
theorem dX9_fartherOf_0 : decode cX9_fartherOf 0 = .ok (.iload_n 1, 1) := by decide +kernel
theorem dX9_fartherOf_1 : decode cX9_fartherOf 1 = .ok (.iload_n 2, 1) := by decide +kernel
theorem dX9_fartherOf_2 : decode cX9_fartherOf 2 = .ok (.invokestatic 244, 3) := by decide +kernel
theorem dX9_fartherOf_5 : decode cX9_fartherOf 5 = .ok (.iload_n 0, 1) := by decide +kernel
theorem dX9_fartherOf_6 : decode cX9_fartherOf 6 = .ok (.iload_n 2, 1) := by decide +kernel
theorem dX9_fartherOf_7 : decode cX9_fartherOf 7 = .ok (.invokestatic 244, 3) := by decide +kernel
theorem dX9_fartherOf_10 : decode cX9_fartherOf 10 = .ok (.if_icmp .le 7, 3) := by decide +kernel
theorem dX9_fartherOf_13 : decode cX9_fartherOf 13 = .ok (.iload_n 1, 1) := by decide +kernel
theorem dX9_fartherOf_14 : decode cX9_fartherOf 14 = .ok (.goto 4, 3) := by decide +kernel
theorem dX9_fartherOf_17 : decode cX9_fartherOf 17 = .ok (.iload_n 0, 1) := by decide +kernel
theorem dX9_fartherOf_18 : decode cX9_fartherOf 18 = .ok (.ireturn, 1) := by decide +kernel
theorem dX9_kindAbove_0 : decode cX9_kindAbove 0 = .ok (.iload_n 0, 1) := by decide +kernel
theorem dX9_kindAbove_1 : decode cX9_kindAbove 1 = .ok (.tableswitch 45 1 6 #[39, 39, 39, 41, 41, 43], 39) := by decide +kernel
theorem dX9_kindAbove_40 : decode cX9_kindAbove 40 = .ok (.iconst 0, 1) := by decide +kernel
theorem dX9_kindAbove_41 : decode cX9_kindAbove 41 = .ok (.ireturn, 1) := by decide +kernel
theorem dX9_kindAbove_42 : decode cX9_kindAbove 42 = .ok (.iconst 1, 1) := by decide +kernel
theorem dX9_kindAbove_43 : decode cX9_kindAbove 43 = .ok (.ireturn, 1) := by decide +kernel
theorem dX9_kindAbove_44 : decode cX9_kindAbove 44 = .ok (.iconst 2, 1) := by decide +kernel
theorem dX9_kindAbove_45 : decode cX9_kindAbove 45 = .ok (.ireturn, 1) := by decide +kernel
theorem dX9_kindAbove_46 : decode cX9_kindAbove 46 = .ok (.iconst (-1), 1) := by decide +kernel
theorem dX9_kindAbove_47 : decode cX9_kindAbove 47 = .ok (.ireturn, 1) := by decide +kernel
theorem dX9_isOneOf_0 : decode cX9_isOneOf 0 = .ok (.iload_n 0, 1) := by decide +kernel
theorem dX9_isOneOf_1 : decode cX9_isOneOf 1 = .ok (.istore_n 2, 1) := by decide +kernel
theorem dX9_isOneOf_2 : decode cX9_isOneOf 2 = .ok (.iconst 0, 1) := by decide +kernel
theorem dX9_isOneOf_3 : decode cX9_isOneOf 3 = .ok (.istore_n 3, 1) := by decide +kernel
theorem dX9_isOneOf_4 : decode cX9_isOneOf 4 = .ok (.iload_n 3, 1) := by decide +kernel
theorem dX9_isOneOf_5 : decode cX9_isOneOf 5 = .ok (.bipush 7, 2) := by decide +kernel
theorem dX9_isOneOf_7 : decode cX9_isOneOf 7 = .ok (.if_icmp .ge 26, 3) := by decide +kernel
theorem dX9_isOneOf_10 : decode cX9_isOneOf 10 = .ok (.iload_n 2, 1) := by decide +kernel
theorem dX9_isOneOf_11 : decode cX9_isOneOf 11 = .ok (.iconst (-1), 1) := by decide +kernel
theorem dX9_isOneOf_12 : decode cX9_isOneOf 12 = .ok (.if_icmp .eq 21, 3) := by decide +kernel
theorem dX9_isOneOf_15 : decode cX9_isOneOf 15 = .ok (.iload_n 2, 1) := by decide +kernel
theorem dX9_isOneOf_16 : decode cX9_isOneOf 16 = .ok (.iload_n 1, 1) := by decide +kernel
theorem dX9_isOneOf_17 : decode cX9_isOneOf 17 = .ok (.if_icmp .ne 5, 3) := by decide +kernel
theorem dX9_isOneOf_20 : decode cX9_isOneOf 20 = .ok (.iconst 1, 1) := by decide +kernel
theorem dX9_isOneOf_21 : decode cX9_isOneOf 21 = .ok (.ireturn, 1) := by decide +kernel
theorem dX9_isOneOf_22 : decode cX9_isOneOf 22 = .ok (.iload_n 2, 1) := by decide +kernel
theorem dX9_isOneOf_23 : decode cX9_isOneOf 23 = .ok (.invokestatic 363, 3) := by decide +kernel
theorem dX9_isOneOf_26 : decode cX9_isOneOf 26 = .ok (.istore_n 2, 1) := by decide +kernel
theorem dX9_isOneOf_27 : decode cX9_isOneOf 27 = .ok (.iinc 3 1, 3) := by decide +kernel
theorem dX9_isOneOf_30 : decode cX9_isOneOf 30 = .ok (.goto (-26), 3) := by decide +kernel
theorem dX9_isOneOf_33 : decode cX9_isOneOf 33 = .ok (.iconst 0, 1) := by decide +kernel
theorem dX9_isOneOf_34 : decode cX9_isOneOf 34 = .ok (.ireturn, 1) := by decide +kernel
theorem dX10_init_0 : decode cX10_init 0 = .ok (.aload_n 0, 1) := by decide +kernel
theorem dX10_init_1 : decode cX10_init 1 = .ok (.invokespecial 1, 3) := by decide +kernel
theorem dX10_init_4 : decode cX10_init 4 = .ok (.aload_n 0, 1) := by decide +kernel
theorem dX10_init_5 : decode cX10_init 5 = .ok (.iconst 0, 1) := by decide +kernel
theorem dX10_init_6 : decode cX10_init 6 = .ok (.putfield 7, 3) := by decide +kernel
theorem dX10_init_9 : decode cX10_init 9 = .ok (.aload_n 0, 1) := by decide +kernel
theorem dX10_init_10 : decode cX10_init 10 = .ok (.bipush 35, 2) := by decide +kernel
theorem dX10_init_12 : decode cX10_init 12 = .ok (.putfield 13, 3) := by decide +kernel
theorem dX10_init_15 : decode cX10_init 15 = .ok (.aload_n 0, 1) := by decide +kernel
theorem dX10_init_16 : decode cX10_init 16 = .ok (.iconst 0, 1) := by decide +kernel
theorem dX10_init_17 : decode cX10_init 17 = .ok (.putfield 16, 3) := by decide +kernel
theorem dX10_init_20 : decode cX10_init 20 = .ok (.aload_n 0, 1) := by decide +kernel
theorem dX10_init_21 : decode cX10_init 21 = .ok (.iconst 0, 1) := by decide +kernel
theorem dX10_init_22 : decode cX10_init 22 = .ok (.putfield 19, 3) := by decide +kernel
theorem dX10_init_25 : decode cX10_init 25 = .ok (.aload_n 0, 1) := by decide +kernel
theorem dX10_init_26 : decode cX10_init 26 = .ok (.bipush 6, 2) := by decide +kernel
theorem dX10_init_28 : decode cX10_init 28 = .ok (.newarray .int, 2) := by decide +kernel
theorem dX10_init_30 : decode cX10_init 30 = .ok (.putfield 22, 3) := by decide +kernel
theorem dX10_init_33 : decode cX10_init 33 = .ok (.aload_n 0, 1) := by decide +kernel
theorem dX10_init_34 : decode cX10_init 34 = .ok (.bipush 6, 2) := by decide +kernel
theorem dX10_init_36 : decode cX10_init 36 = .ok (.newarray .int, 2) := by decide +kernel
theorem dX10_init_38 : decode cX10_init 38 = .ok (.putfield 26, 3) := by decide +kernel
theorem dX10_init_41 : decode cX10_init 41 = .ok (.aload_n 0, 1) := by decide +kernel
theorem dX10_init_42 : decode cX10_init 42 = .ok (.bipush 6, 2) := by decide +kernel
theorem dX10_init_44 : decode cX10_init 44 = .ok (.newarray .int, 2) := by decide +kernel
theorem dX10_init_46 : decode cX10_init 46 = .ok (.putfield 29, 3) := by decide +kernel
theorem dX10_init_49 : decode cX10_init 49 = .ok (.aload_n 0, 1) := by decide +kernel
theorem dX10_init_50 : decode cX10_init 50 = .ok (.bipush 6, 2) := by decide +kernel
theorem dX10_init_52 : decode cX10_init 52 = .ok (.newarray .int, 2) := by decide +kernel
theorem dX10_init_54 : decode cX10_init 54 = .ok (.putfield 32, 3) := by decide +kernel
theorem dX10_init_57 : decode cX10_init 57 = .ok (.aload_n 0, 1) := by decide +kernel
theorem dX10_init_58 : decode cX10_init 58 = .ok (.bipush 6, 2) := by decide +kernel
theorem dX10_init_60 : decode cX10_init 60 = .ok (.newarray .int, 2) := by decide +kernel
theorem dX10_init_62 : decode cX10_init 62 = .ok (.putfield 35, 3) := by decide +kernel
theorem dX10_init_65 : decode cX10_init 65 = .ok (.aload_n 0, 1) := by decide +kernel
theorem dX10_init_66 : decode cX10_init 66 = .ok (.bipush 6, 2) := by decide +kernel
theorem dX10_init_68 : decode cX10_init 68 = .ok (.newarray .int, 2) := by decide +kernel
theorem dX10_init_70 : decode cX10_init 70 = .ok (.putfield 38, 3) := by decide +kernel
theorem dX10_init_73 : decode cX10_init 73 = .ok (.aload_n 0, 1) := by decide +kernel
theorem dX10_init_74 : decode cX10_init 74 = .ok (.iconst 0, 1) := by decide +kernel
theorem dX10_init_75 : decode cX10_init 75 = .ok (.putfield 41, 3) := by decide +kernel
theorem dX10_init_78 : decode cX10_init 78 = .ok (.aload_n 0, 1) := by decide +kernel
theorem dX10_init_79 : decode cX10_init 79 = .ok (.iconst (-1), 1) := by decide +kernel
theorem dX10_init_80 : decode cX10_init 80 = .ok (.putfield 44, 3) := by decide +kernel
theorem dX10_init_83 : decode cX10_init 83 = .ok (.aload_n 0, 1) := by decide +kernel
theorem dX10_init_84 : decode cX10_init 84 = .ok (.iconst 0, 1) := by decide +kernel
theorem dX10_init_85 : decode cX10_init 85 = .ok (.putfield 47, 3) := by decide +kernel
theorem dX10_init_88 : decode cX10_init 88 = .ok (.aload_n 0, 1) := by decide +kernel
theorem dX10_init_89 : decode cX10_init 89 = .ok (.iconst 0, 1) := by decide +kernel
theorem dX10_init_90 : decode cX10_init 90 = .ok (.putfield 50, 3) := by decide +kernel
theorem dX10_init_93 : decode cX10_init 93 = .ok (.aload_n 0, 1) := by decide +kernel
theorem dX10_init_94 : decode cX10_init 94 = .ok (.iconst 0, 1) := by decide +kernel
theorem dX10_init_95 : decode cX10_init 95 = .ok (.putfield 53, 3) := by decide +kernel
theorem dX10_init_98 : decode cX10_init 98 = .ok (.aload_n 0, 1) := by decide +kernel
theorem dX10_init_99 : decode cX10_init 99 = .ok (.bipush 100, 2) := by decide +kernel
theorem dX10_init_101 : decode cX10_init 101 = .ok (.newarray .int, 2) := by decide +kernel
theorem dX10_init_103 : decode cX10_init 103 = .ok (.putfield 56, 3) := by decide +kernel
theorem dX10_init_106 : decode cX10_init 106 = .ok (.aload_n 0, 1) := by decide +kernel
theorem dX10_init_107 : decode cX10_init 107 = .ok (.bipush 6, 2) := by decide +kernel
theorem dX10_init_109 : decode cX10_init 109 = .ok (.newarray .int, 2) := by decide +kernel
theorem dX10_init_111 : decode cX10_init 111 = .ok (.putfield 59, 3) := by decide +kernel
theorem dX10_init_114 : decode cX10_init 114 = .ok (.aload_n 0, 1) := by decide +kernel
theorem dX10_init_115 : decode cX10_init 115 = .ok (.bipush 48, 2) := by decide +kernel
theorem dX10_init_117 : decode cX10_init 117 = .ok (.newarray .int, 2) := by decide +kernel
theorem dX10_init_119 : decode cX10_init 119 = .ok (.putfield 62, 3) := by decide +kernel
theorem dX10_init_122 : decode cX10_init 122 = .ok (.aload_n 0, 1) := by decide +kernel
theorem dX10_init_123 : decode cX10_init 123 = .ok (.bipush 48, 2) := by decide +kernel
theorem dX10_init_125 : decode cX10_init 125 = .ok (.newarray .int, 2) := by decide +kernel
theorem dX10_init_127 : decode cX10_init 127 = .ok (.putfield 65, 3) := by decide +kernel
theorem dX10_init_130 : decode cX10_init 130 = .ok (.aload_n 0, 1) := by decide +kernel
theorem dX10_init_131 : decode cX10_init 131 = .ok (.bipush 48, 2) := by decide +kernel
theorem dX10_init_133 : decode cX10_init 133 = .ok (.newarray .int, 2) := by decide +kernel
theorem dX10_init_135 : decode cX10_init 135 = .ok (.putfield 68, 3) := by decide +kernel
theorem dX10_init_138 : decode cX10_init 138 = .ok (.aload_n 0, 1) := by decide +kernel
theorem dX10_init_139 : decode cX10_init 139 = .ok (.bipush 48, 2) := by decide +kernel
theorem dX10_init_141 : decode cX10_init 141 = .ok (.newarray .int, 2) := by decide +kernel
theorem dX10_init_143 : decode cX10_init 143 = .ok (.putfield 71, 3) := by decide +kernel
theorem dX10_init_146 : decode cX10_init 146 = .ok (.aload_n 0, 1) := by decide +kernel
theorem dX10_init_147 : decode cX10_init 147 = .ok (.sipush 600, 3) := by decide +kernel
theorem dX10_init_150 : decode cX10_init 150 = .ok (.newarray .int, 2) := by decide +kernel
theorem dX10_init_152 : decode cX10_init 152 = .ok (.putfield 74, 3) := by decide +kernel
theorem dX10_init_155 : decode cX10_init 155 = .ok (.aload_n 0, 1) := by decide +kernel
theorem dX10_init_156 : decode cX10_init 156 = .ok (.bipush 101, 2) := by decide +kernel
theorem dX10_init_158 : decode cX10_init 158 = .ok (.newarray .int, 2) := by decide +kernel
theorem dX10_init_160 : decode cX10_init 160 = .ok (.putfield 77, 3) := by decide +kernel
theorem dX10_init_163 : decode cX10_init 163 = .ok (.aload_n 0, 1) := by decide +kernel
theorem dX10_init_164 : decode cX10_init 164 = .ok (.iconst 0, 1) := by decide +kernel
theorem dX10_init_165 : decode cX10_init 165 = .ok (.putfield 80, 3) := by decide +kernel
theorem dX10_init_168 : decode cX10_init 168 = .ok (.aload_n 0, 1) := by decide +kernel
theorem dX10_init_169 : decode cX10_init 169 = .ok (.iconst 0, 1) := by decide +kernel
theorem dX10_init_170 : decode cX10_init 170 = .ok (.putfield 83, 3) := by decide +kernel
theorem dX10_init_173 : decode cX10_init 173 = .ok (.aload_n 0, 1) := by decide +kernel
theorem dX10_init_174 : decode cX10_init 174 = .ok (.iconst 0, 1) := by decide +kernel
theorem dX10_init_175 : decode cX10_init 175 = .ok (.putfield 86, 3) := by decide +kernel
theorem dX10_init_178 : decode cX10_init 178 = .ok (.aload_n 0, 1) := by decide +kernel
theorem dX10_init_179 : decode cX10_init 179 = .ok (.bipush 13, 2) := by decide +kernel
theorem dX10_init_181 : decode cX10_init 181 = .ok (.newarray .int, 2) := by decide +kernel
theorem dX10_init_183 : decode cX10_init 183 = .ok (.dup, 1) := by decide +kernel
theorem dX10_init_184 : decode cX10_init 184 = .ok (.iconst 0, 1) := by decide +kernel
theorem dX10_init_185 : decode cX10_init 185 = .ok (.bipush 121, 2) := by decide +kernel
theorem dX10_init_187 : decode cX10_init 187 = .ok (.iastore, 1) := by decide +kernel
theorem dX10_init_188 : decode cX10_init 188 = .ok (.dup, 1) := by decide +kernel
theorem dX10_init_189 : decode cX10_init 189 = .ok (.iconst 1, 1) := by decide +kernel
theorem dX10_init_190 : decode cX10_init 190 = .ok (.bipush 105, 2) := by decide +kernel
theorem dX10_init_192 : decode cX10_init 192 = .ok (.iastore, 1) := by decide +kernel
theorem dX10_init_193 : decode cX10_init 193 = .ok (.dup, 1) := by decide +kernel
theorem dX10_init_194 : decode cX10_init 194 = .ok (.iconst 2, 1) := by decide +kernel
theorem dX10_init_195 : decode cX10_init 195 = .ok (.bipush 101, 2) := by decide +kernel
theorem dX10_init_197 : decode cX10_init 197 = .ok (.iastore, 1) := by decide +kernel
theorem dX10_init_198 : decode cX10_init 198 = .ok (.dup, 1) := by decide +kernel
theorem dX10_init_199 : decode cX10_init 199 = .ok (.iconst 3, 1) := by decide +kernel
theorem dX10_init_200 : decode cX10_init 200 = .ok (.bipush 108, 2) := by decide +kernel
theorem dX10_init_202 : decode cX10_init 202 = .ok (.iastore, 1) := by decide +kernel
theorem dX10_init_203 : decode cX10_init 203 = .ok (.dup, 1) := by decide +kernel
theorem dX10_init_204 : decode cX10_init 204 = .ok (.iconst 4, 1) := by decide +kernel
theorem dX10_init_205 : decode cX10_init 205 = .ok (.bipush 100, 2) := by decide +kernel
theorem dX10_init_207 : decode cX10_init 207 = .ok (.iastore, 1) := by decide +kernel
theorem dX10_init_208 : decode cX10_init 208 = .ok (.dup, 1) := by decide +kernel
theorem dX10_init_209 : decode cX10_init 209 = .ok (.iconst 5, 1) := by decide +kernel
theorem dX10_init_210 : decode cX10_init 210 = .ok (.bipush 99, 2) := by decide +kernel
theorem dX10_init_212 : decode cX10_init 212 = .ok (.iastore, 1) := by decide +kernel
theorem dX10_init_213 : decode cX10_init 213 = .ok (.dup, 1) := by decide +kernel
theorem dX10_init_214 : decode cX10_init 214 = .ok (.bipush 6, 2) := by decide +kernel
theorem dX10_init_216 : decode cX10_init 216 = .ok (.bipush 111, 2) := by decide +kernel
theorem dX10_init_218 : decode cX10_init 218 = .ok (.iastore, 1) := by decide +kernel
theorem dX10_init_219 : decode cX10_init 219 = .ok (.dup, 1) := by decide +kernel
theorem dX10_init_220 : decode cX10_init 220 = .ok (.bipush 7, 2) := by decide +kernel
theorem dX10_init_222 : decode cX10_init 222 = .ok (.bipush 109, 2) := by decide +kernel
theorem dX10_init_224 : decode cX10_init 224 = .ok (.iastore, 1) := by decide +kernel
theorem dX10_init_225 : decode cX10_init 225 = .ok (.dup, 1) := by decide +kernel
theorem dX10_init_226 : decode cX10_init 226 = .ok (.bipush 8, 2) := by decide +kernel
theorem dX10_init_228 : decode cX10_init 228 = .ok (.bipush 101, 2) := by decide +kernel
theorem dX10_init_230 : decode cX10_init 230 = .ok (.iastore, 1) := by decide +kernel
theorem dX10_init_231 : decode cX10_init 231 = .ok (.dup, 1) := by decide +kernel
theorem dX10_init_232 : decode cX10_init 232 = .ok (.bipush 9, 2) := by decide +kernel
theorem dX10_init_234 : decode cX10_init 234 = .ok (.bipush 108, 2) := by decide +kernel
theorem dX10_init_236 : decode cX10_init 236 = .ok (.iastore, 1) := by decide +kernel
theorem dX10_init_237 : decode cX10_init 237 = .ok (.dup, 1) := by decide +kernel
theorem dX10_init_238 : decode cX10_init 238 = .ok (.bipush 10, 2) := by decide +kernel
theorem dX10_init_240 : decode cX10_init 240 = .ok (.bipush 111, 2) := by decide +kernel
theorem dX10_init_242 : decode cX10_init 242 = .ok (.iastore, 1) := by decide +kernel
theorem dX10_init_243 : decode cX10_init 243 = .ok (.dup, 1) := by decide +kernel
theorem dX10_init_244 : decode cX10_init 244 = .ok (.bipush 11, 2) := by decide +kernel
theorem dX10_init_246 : decode cX10_init 246 = .ok (.bipush 117, 2) := by decide +kernel
theorem dX10_init_248 : decode cX10_init 248 = .ok (.iastore, 1) := by decide +kernel
theorem dX10_init_249 : decode cX10_init 249 = .ok (.dup, 1) := by decide +kernel
theorem dX10_init_250 : decode cX10_init 250 = .ok (.bipush 12, 2) := by decide +kernel
theorem dX10_init_252 : decode cX10_init 252 = .ok (.bipush 100, 2) := by decide +kernel
theorem dX10_init_254 : decode cX10_init 254 = .ok (.iastore, 1) := by decide +kernel
theorem dX10_init_255 : decode cX10_init 255 = .ok (.putfield 89, 3) := by decide +kernel
theorem dX10_init_258 : decode cX10_init 258 = .ok (.aload_n 0, 1) := by decide +kernel
theorem dX10_init_259 : decode cX10_init 259 = .ok (.bipush 35, 2) := by decide +kernel
theorem dX10_init_261 : decode cX10_init 261 = .ok (.putfield 92, 3) := by decide +kernel
theorem dX10_init_264 : decode cX10_init 264 = .ok (.aload_n 0, 1) := by decide +kernel
theorem dX10_init_265 : decode cX10_init 265 = .ok (.iconst 0, 1) := by decide +kernel
theorem dX10_init_266 : decode cX10_init 266 = .ok (.putfield 95, 3) := by decide +kernel
theorem dX10_init_269 : decode cX10_init 269 = .ok (.aload_n 0, 1) := by decide +kernel
theorem dX10_init_270 : decode cX10_init 270 = .ok (.iconst 0, 1) := by decide +kernel
theorem dX10_init_271 : decode cX10_init 271 = .ok (.putfield 98, 3) := by decide +kernel
theorem dX10_init_274 : decode cX10_init 274 = .ok (.aload_n 0, 1) := by decide +kernel
theorem dX10_init_275 : decode cX10_init 275 = .ok (.bipush 6, 2) := by decide +kernel
theorem dX10_init_277 : decode cX10_init 277 = .ok (.newarray .int, 2) := by decide +kernel
theorem dX10_init_279 : decode cX10_init 279 = .ok (.putfield 101, 3) := by decide +kernel
theorem dX10_init_282 : decode cX10_init 282 = .ok (.aload_n 0, 1) := by decide +kernel
theorem dX10_init_283 : decode cX10_init 283 = .ok (.bipush 6, 2) := by decide +kernel
theorem dX10_init_285 : decode cX10_init 285 = .ok (.newarray .int, 2) := by decide +kernel
theorem dX10_init_287 : decode cX10_init 287 = .ok (.putfield 104, 3) := by decide +kernel
theorem dX10_init_290 : decode cX10_init 290 = .ok (.aload_n 0, 1) := by decide +kernel
theorem dX10_init_291 : decode cX10_init 291 = .ok (.bipush 100, 2) := by decide +kernel
theorem dX10_init_293 : decode cX10_init 293 = .ok (.newarray .boolean, 2) := by decide +kernel
theorem dX10_init_295 : decode cX10_init 295 = .ok (.putfield 107, 3) := by decide +kernel
theorem dX10_init_298 : decode cX10_init 298 = .ok (.aload_n 0, 1) := by decide +kernel
theorem dX10_init_299 : decode cX10_init 299 = .ok (.iconst 0, 1) := by decide +kernel
theorem dX10_init_300 : decode cX10_init 300 = .ok (.putfield 111, 3) := by decide +kernel
theorem dX10_init_303 : decode cX10_init 303 = .ok (.aload_n 0, 1) := by decide +kernel
theorem dX10_init_304 : decode cX10_init 304 = .ok (.iconst 0, 1) := by decide +kernel
theorem dX10_init_305 : decode cX10_init 305 = .ok (.putfield 114, 3) := by decide +kernel
theorem dX10_init_308 : decode cX10_init 308 = .ok (.aload_n 0, 1) := by decide +kernel
theorem dX10_init_309 : decode cX10_init 309 = .ok (.iconst 0, 1) := by decide +kernel
theorem dX10_init_310 : decode cX10_init 310 = .ok (.putfield 117, 3) := by decide +kernel
theorem dX10_init_313 : decode cX10_init 313 = .ok (.aload_n 0, 1) := by decide +kernel
theorem dX10_init_314 : decode cX10_init 314 = .ok (.iconst 0, 1) := by decide +kernel
theorem dX10_init_315 : decode cX10_init 315 = .ok (.putfield 120, 3) := by decide +kernel
theorem dX10_init_318 : decode cX10_init 318 = .ok (.aload_n 0, 1) := by decide +kernel
theorem dX10_init_319 : decode cX10_init 319 = .ok (.iconst 0, 1) := by decide +kernel
theorem dX10_init_320 : decode cX10_init 320 = .ok (.putfield 123, 3) := by decide +kernel
theorem dX10_init_323 : decode cX10_init 323 = .ok (.aload_n 0, 1) := by decide +kernel
theorem dX10_init_324 : decode cX10_init 324 = .ok (.iconst 0, 1) := by decide +kernel
theorem dX10_init_325 : decode cX10_init 325 = .ok (.putfield 126, 3) := by decide +kernel
theorem dX10_init_328 : decode cX10_init 328 = .ok (.aload_n 0, 1) := by decide +kernel
theorem dX10_init_329 : decode cX10_init 329 = .ok (.bipush 12, 2) := by decide +kernel
theorem dX10_init_331 : decode cX10_init 331 = .ok (.newarray .int, 2) := by decide +kernel
theorem dX10_init_333 : decode cX10_init 333 = .ok (.putfield 129, 3) := by decide +kernel
theorem dX10_init_336 : decode cX10_init 336 = .ok (.aload_n 0, 1) := by decide +kernel
theorem dX10_init_337 : decode cX10_init 337 = .ok (.bipush 36, 2) := by decide +kernel
theorem dX10_init_339 : decode cX10_init 339 = .ok (.newarray .int, 2) := by decide +kernel
theorem dX10_init_341 : decode cX10_init 341 = .ok (.putfield 132, 3) := by decide +kernel
theorem dX10_init_344 : decode cX10_init 344 = .ok (.aload_n 0, 1) := by decide +kernel
theorem dX10_init_345 : decode cX10_init 345 = .ok (.bipush 6, 2) := by decide +kernel
theorem dX10_init_347 : decode cX10_init 347 = .ok (.newarray .int, 2) := by decide +kernel
theorem dX10_init_349 : decode cX10_init 349 = .ok (.putfield 135, 3) := by decide +kernel
theorem dX10_init_352 : decode cX10_init 352 = .ok (.aload_n 0, 1) := by decide +kernel
theorem dX10_init_353 : decode cX10_init 353 = .ok (.bipush 6, 2) := by decide +kernel
theorem dX10_init_355 : decode cX10_init 355 = .ok (.newarray .int, 2) := by decide +kernel
theorem dX10_init_357 : decode cX10_init 357 = .ok (.putfield 138, 3) := by decide +kernel
theorem dX10_init_360 : decode cX10_init 360 = .ok (.aload_n 0, 1) := by decide +kernel
theorem dX10_init_361 : decode cX10_init 361 = .ok (.iconst 5, 1) := by decide +kernel
theorem dX10_init_362 : decode cX10_init 362 = .ok (.newarray .int, 2) := by decide +kernel
theorem dX10_init_364 : decode cX10_init 364 = .ok (.putfield 141, 3) := by decide +kernel
theorem dX10_init_367 : decode cX10_init 367 = .ok (.aload_n 0, 1) := by decide +kernel
theorem dX10_init_368 : decode cX10_init 368 = .ok (.bipush 6, 2) := by decide +kernel
theorem dX10_init_370 : decode cX10_init 370 = .ok (.newarray .int, 2) := by decide +kernel
theorem dX10_init_372 : decode cX10_init 372 = .ok (.putfield 144, 3) := by decide +kernel
theorem dX10_init_375 : decode cX10_init 375 = .ok (.aload_n 0, 1) := by decide +kernel
theorem dX10_init_376 : decode cX10_init 376 = .ok (.bipush 6, 2) := by decide +kernel
theorem dX10_init_378 : decode cX10_init 378 = .ok (.newarray .int, 2) := by decide +kernel
theorem dX10_init_380 : decode cX10_init 380 = .ok (.putfield 147, 3) := by decide +kernel
theorem dX10_init_383 : decode cX10_init 383 = .ok (.aload_n 0, 1) := by decide +kernel
theorem dX10_init_384 : decode cX10_init 384 = .ok (.iconst 0, 1) := by decide +kernel
theorem dX10_init_385 : decode cX10_init 385 = .ok (.putfield 150, 3) := by decide +kernel
theorem dX10_init_388 : decode cX10_init 388 = .ok (.aload_n 0, 1) := by decide +kernel
theorem dX10_init_389 : decode cX10_init 389 = .ok (.bipush 10, 2) := by decide +kernel
theorem dX10_init_391 : decode cX10_init 391 = .ok (.newarray .int, 2) := by decide +kernel
theorem dX10_init_393 : decode cX10_init 393 = .ok (.putfield 153, 3) := by decide +kernel
theorem dX10_init_396 : decode cX10_init 396 = .ok (.aload_n 0, 1) := by decide +kernel
theorem dX10_init_397 : decode cX10_init 397 = .ok (.iconst 0, 1) := by decide +kernel
theorem dX10_init_398 : decode cX10_init 398 = .ok (.putfield 156, 3) := by decide +kernel
theorem dX10_init_401 : decode cX10_init 401 = .ok (.aload_n 0, 1) := by decide +kernel
theorem dX10_init_402 : decode cX10_init 402 = .ok (.iconst (-1), 1) := by decide +kernel
theorem dX10_init_403 : decode cX10_init 403 = .ok (.putfield 160, 3) := by decide +kernel
theorem dX10_init_406 : decode cX10_init 406 = .ok (.aload_n 0, 1) := by decide +kernel
theorem dX10_init_407 : decode cX10_init 407 = .ok (.iconst 0, 1) := by decide +kernel
theorem dX10_init_408 : decode cX10_init 408 = .ok (.putfield 163, 3) := by decide +kernel
theorem dX10_init_411 : decode cX10_init 411 = .ok (.aload_n 0, 1) := by decide +kernel
theorem dX10_init_412 : decode cX10_init 412 = .ok (.bipush 35, 2) := by decide +kernel
theorem dX10_init_414 : decode cX10_init 414 = .ok (.putfield 166, 3) := by decide +kernel
theorem dX10_init_417 : decode cX10_init 417 = .ok (.aload_n 0, 1) := by decide +kernel
theorem dX10_init_418 : decode cX10_init 418 = .ok (.iconst 0, 1) := by decide +kernel
theorem dX10_init_419 : decode cX10_init 419 = .ok (.putfield 169, 3) := by decide +kernel
theorem dX10_init_422 : decode cX10_init 422 = .ok (.aload_n 0, 1) := by decide +kernel
theorem dX10_init_423 : decode cX10_init 423 = .ok (.iconst 0, 1) := by decide +kernel
theorem dX10_init_424 : decode cX10_init 424 = .ok (.putfield 172, 3) := by decide +kernel
theorem dX10_init_427 : decode cX10_init 427 = .ok (.aload_n 0, 1) := by decide +kernel
theorem dX10_init_428 : decode cX10_init 428 = .ok (.iconst 0, 1) := by decide +kernel
theorem dX10_init_429 : decode cX10_init 429 = .ok (.putfield 175, 3) := by decide +kernel
theorem dX10_init_432 : decode cX10_init 432 = .ok (.aload_n 0, 1) := by decide +kernel
theorem dX10_init_433 : decode cX10_init 433 = .ok (.iconst 0, 1) := by decide +kernel
theorem dX10_init_434 : decode cX10_init 434 = .ok (.putfield 178, 3) := by decide +kernel
theorem dX10_init_437 : decode cX10_init 437 = .ok (.aload_n 0, 1) := by decide +kernel
theorem dX10_init_438 : decode cX10_init 438 = .ok (.bipush 6, 2) := by decide +kernel
theorem dX10_init_440 : decode cX10_init 440 = .ok (.newarray .int, 2) := by decide +kernel
theorem dX10_init_442 : decode cX10_init 442 = .ok (.putfield 181, 3) := by decide +kernel
theorem dX10_init_445 : decode cX10_init 445 = .ok (.aload_n 0, 1) := by decide +kernel
theorem dX10_init_446 : decode cX10_init 446 = .ok (.bipush 6, 2) := by decide +kernel
theorem dX10_init_448 : decode cX10_init 448 = .ok (.newarray .int, 2) := by decide +kernel
theorem dX10_init_450 : decode cX10_init 450 = .ok (.putfield 184, 3) := by decide +kernel
theorem dX10_init_453 : decode cX10_init 453 = .ok (.aload_n 0, 1) := by decide +kernel
theorem dX10_init_454 : decode cX10_init 454 = .ok (.bipush 6, 2) := by decide +kernel
theorem dX10_init_456 : decode cX10_init 456 = .ok (.newarray .int, 2) := by decide +kernel
theorem dX10_init_458 : decode cX10_init 458 = .ok (.putfield 187, 3) := by decide +kernel
theorem dX10_init_461 : decode cX10_init 461 = .ok (.aload_n 0, 1) := by decide +kernel
theorem dX10_init_462 : decode cX10_init 462 = .ok (.bipush 6, 2) := by decide +kernel
theorem dX10_init_464 : decode cX10_init 464 = .ok (.newarray .int, 2) := by decide +kernel
theorem dX10_init_466 : decode cX10_init 466 = .ok (.putfield 190, 3) := by decide +kernel
theorem dX10_init_469 : decode cX10_init 469 = .ok (.aload_n 0, 1) := by decide +kernel
theorem dX10_init_470 : decode cX10_init 470 = .ok (.bipush 6, 2) := by decide +kernel
theorem dX10_init_472 : decode cX10_init 472 = .ok (.newarray .int, 2) := by decide +kernel
theorem dX10_init_474 : decode cX10_init 474 = .ok (.putfield 193, 3) := by decide +kernel
theorem dX10_init_477 : decode cX10_init 477 = .ok (.aload_n 0, 1) := by decide +kernel
theorem dX10_init_478 : decode cX10_init 478 = .ok (.bipush 6, 2) := by decide +kernel
theorem dX10_init_480 : decode cX10_init 480 = .ok (.newarray .int, 2) := by decide +kernel
theorem dX10_init_482 : decode cX10_init 482 = .ok (.putfield 196, 3) := by decide +kernel
theorem dX10_init_485 : decode cX10_init 485 = .ok (.aload_n 0, 1) := by decide +kernel
theorem dX10_init_486 : decode cX10_init 486 = .ok (.bipush 12, 2) := by decide +kernel
theorem dX10_init_488 : decode cX10_init 488 = .ok (.newarray .int, 2) := by decide +kernel
theorem dX10_init_490 : decode cX10_init 490 = .ok (.putfield 199, 3) := by decide +kernel
theorem dX10_init_493 : decode cX10_init 493 = .ok (.aload_n 0, 1) := by decide +kernel
theorem dX10_init_494 : decode cX10_init 494 = .ok (.bipush 10, 2) := by decide +kernel
theorem dX10_init_496 : decode cX10_init 496 = .ok (.newarray .int, 2) := by decide +kernel
theorem dX10_init_498 : decode cX10_init 498 = .ok (.putfield 202, 3) := by decide +kernel
theorem dX10_init_501 : decode cX10_init 501 = .ok (.aload_n 0, 1) := by decide +kernel
theorem dX10_init_502 : decode cX10_init 502 = .ok (.iconst 0, 1) := by decide +kernel
theorem dX10_init_503 : decode cX10_init 503 = .ok (.putfield 205, 3) := by decide +kernel
theorem dX10_init_506 : decode cX10_init 506 = .ok (.aload_n 0, 1) := by decide +kernel
theorem dX10_init_507 : decode cX10_init 507 = .ok (.bipush 20, 2) := by decide +kernel
theorem dX10_init_509 : decode cX10_init 509 = .ok (.newarray .int, 2) := by decide +kernel
theorem dX10_init_511 : decode cX10_init 511 = .ok (.putfield 208, 3) := by decide +kernel
theorem dX10_init_514 : decode cX10_init 514 = .ok (.aload_n 0, 1) := by decide +kernel
theorem dX10_init_515 : decode cX10_init 515 = .ok (.bipush 6, 2) := by decide +kernel
theorem dX10_init_517 : decode cX10_init 517 = .ok (.newarray .int, 2) := by decide +kernel
theorem dX10_init_519 : decode cX10_init 519 = .ok (.dup, 1) := by decide +kernel
theorem dX10_init_520 : decode cX10_init 520 = .ok (.iconst 0, 1) := by decide +kernel
theorem dX10_init_521 : decode cX10_init 521 = .ok (.iconst (-1), 1) := by decide +kernel
theorem dX10_init_522 : decode cX10_init 522 = .ok (.iastore, 1) := by decide +kernel
theorem dX10_init_523 : decode cX10_init 523 = .ok (.dup, 1) := by decide +kernel
theorem dX10_init_524 : decode cX10_init 524 = .ok (.iconst 1, 1) := by decide +kernel
theorem dX10_init_525 : decode cX10_init 525 = .ok (.iconst (-1), 1) := by decide +kernel
theorem dX10_init_526 : decode cX10_init 526 = .ok (.iastore, 1) := by decide +kernel
theorem dX10_init_527 : decode cX10_init 527 = .ok (.dup, 1) := by decide +kernel
theorem dX10_init_528 : decode cX10_init 528 = .ok (.iconst 2, 1) := by decide +kernel
theorem dX10_init_529 : decode cX10_init 529 = .ok (.iconst (-1), 1) := by decide +kernel
theorem dX10_init_530 : decode cX10_init 530 = .ok (.iastore, 1) := by decide +kernel
theorem dX10_init_531 : decode cX10_init 531 = .ok (.dup, 1) := by decide +kernel
theorem dX10_init_532 : decode cX10_init 532 = .ok (.iconst 3, 1) := by decide +kernel
theorem dX10_init_533 : decode cX10_init 533 = .ok (.iconst (-1), 1) := by decide +kernel
theorem dX10_init_534 : decode cX10_init 534 = .ok (.iastore, 1) := by decide +kernel
theorem dX10_init_535 : decode cX10_init 535 = .ok (.dup, 1) := by decide +kernel
theorem dX10_init_536 : decode cX10_init 536 = .ok (.iconst 4, 1) := by decide +kernel
theorem dX10_init_537 : decode cX10_init 537 = .ok (.iconst (-1), 1) := by decide +kernel
theorem dX10_init_538 : decode cX10_init 538 = .ok (.iastore, 1) := by decide +kernel
theorem dX10_init_539 : decode cX10_init 539 = .ok (.dup, 1) := by decide +kernel
theorem dX10_init_540 : decode cX10_init 540 = .ok (.iconst 5, 1) := by decide +kernel
theorem dX10_init_541 : decode cX10_init 541 = .ok (.iconst (-1), 1) := by decide +kernel
theorem dX10_init_542 : decode cX10_init 542 = .ok (.iastore, 1) := by decide +kernel
theorem dX10_init_543 : decode cX10_init 543 = .ok (.putfield 211, 3) := by decide +kernel
theorem dX10_init_546 : decode cX10_init 546 = .ok (.aload_n 0, 1) := by decide +kernel
theorem dX10_init_547 : decode cX10_init 547 = .ok (.bipush 6, 2) := by decide +kernel
theorem dX10_init_549 : decode cX10_init 549 = .ok (.newarray .int, 2) := by decide +kernel
theorem dX10_init_551 : decode cX10_init 551 = .ok (.putfield 214, 3) := by decide +kernel
theorem dX10_init_554 : decode cX10_init 554 = .ok (.aload_n 0, 1) := by decide +kernel
theorem dX10_init_555 : decode cX10_init 555 = .ok (.sipush 360, 3) := by decide +kernel
theorem dX10_init_558 : decode cX10_init 558 = .ok (.newarray .long, 2) := by decide +kernel
theorem dX10_init_560 : decode cX10_init 560 = .ok (.putfield 217, 3) := by decide +kernel
theorem dX10_init_563 : decode cX10_init 563 = .ok (.aload_n 0, 1) := by decide +kernel
theorem dX10_init_564 : decode cX10_init 564 = .ok (.bipush 60, 2) := by decide +kernel
theorem dX10_init_566 : decode cX10_init 566 = .ok (.newarray .long, 2) := by decide +kernel
theorem dX10_init_568 : decode cX10_init 568 = .ok (.putfield 221, 3) := by decide +kernel
theorem dX10_init_571 : decode cX10_init 571 = .ok (.return_, 1) := by decide +kernel
theorem dX10_in_0 : decode cX10_in 0 = .ok (.iload_n 1, 1) := by decide +kernel
theorem dX10_in_1 : decode cX10_in 1 = .ok (.iload_n 2, 1) := by decide +kernel
theorem dX10_in_2 : decode cX10_in 2 = .ok (.if_icmp .lt 12, 3) := by decide +kernel
theorem dX10_in_5 : decode cX10_in 5 = .ok (.iload_n 1, 1) := by decide +kernel
theorem dX10_in_6 : decode cX10_in 6 = .ok (.iload_n 3, 1) := by decide +kernel
theorem dX10_in_7 : decode cX10_in 7 = .ok (.if_icmp .gt 7, 3) := by decide +kernel
theorem dX10_in_10 : decode cX10_in 10 = .ok (.iconst 1, 1) := by decide +kernel
theorem dX10_in_11 : decode cX10_in 11 = .ok (.goto 4, 3) := by decide +kernel
theorem dX10_in_14 : decode cX10_in 14 = .ok (.iconst 0, 1) := by decide +kernel
theorem dX10_in_15 : decode cX10_in 15 = .ok (.ireturn, 1) := by decide +kernel
theorem dX10_min_0 : decode cX10_min 0 = .ok (.iload_n 1, 1) := by decide +kernel
theorem dX10_min_1 : decode cX10_min 1 = .ok (.iload_n 2, 1) := by decide +kernel
theorem dX10_min_2 : decode cX10_min 2 = .ok (.if_icmp .ge 7, 3) := by decide +kernel
theorem dX10_min_5 : decode cX10_min 5 = .ok (.iload_n 1, 1) := by decide +kernel
theorem dX10_min_6 : decode cX10_min 6 = .ok (.goto 4, 3) := by decide +kernel
theorem dX10_min_9 : decode cX10_min 9 = .ok (.iload_n 2, 1) := by decide +kernel
theorem dX10_min_10 : decode cX10_min 10 = .ok (.ireturn, 1) := by decide +kernel
theorem dX10_most_0 : decode cX10_most 0 = .ok (.iload_n 1, 1) := by decide +kernel
theorem dX10_most_1 : decode cX10_most 1 = .ok (.iload_n 2, 1) := by decide +kernel
theorem dX10_most_2 : decode cX10_most 2 = .ok (.if_icmp .ge 7, 3) := by decide +kernel
theorem dX10_most_5 : decode cX10_most 5 = .ok (.iload_n 2, 1) := by decide +kernel
theorem dX10_most_6 : decode cX10_most 6 = .ok (.goto 4, 3) := by decide +kernel
theorem dX10_most_9 : decode cX10_most 9 = .ok (.iload_n 1, 1) := by decide +kernel
theorem dX10_most_10 : decode cX10_most 10 = .ok (.ireturn, 1) := by decide +kernel
theorem dX10_apart_0 : decode cX10_apart 0 = .ok (.iload_n 1, 1) := by decide +kernel
theorem dX10_apart_1 : decode cX10_apart 1 = .ok (.iload_n 2, 1) := by decide +kernel
theorem dX10_apart_2 : decode cX10_apart 2 = .ok (.if_icmp .ge 9, 3) := by decide +kernel
theorem dX10_apart_5 : decode cX10_apart 5 = .ok (.iload_n 2, 1) := by decide +kernel
theorem dX10_apart_6 : decode cX10_apart 6 = .ok (.iload_n 1, 1) := by decide +kernel
theorem dX10_apart_7 : decode cX10_apart 7 = .ok (.isub, 1) := by decide +kernel
theorem dX10_apart_8 : decode cX10_apart 8 = .ok (.goto 6, 3) := by decide +kernel
theorem dX10_apart_11 : decode cX10_apart 11 = .ok (.iload_n 1, 1) := by decide +kernel
theorem dX10_apart_12 : decode cX10_apart 12 = .ok (.iload_n 2, 1) := by decide +kernel
theorem dX10_apart_13 : decode cX10_apart 13 = .ok (.isub, 1) := by decide +kernel
theorem dX10_apart_14 : decode cX10_apart 14 = .ok (.ireturn, 1) := by decide +kernel
theorem dX10_far_0 : decode cX10_far 0 = .ok (.aload_n 0, 1) := by decide +kernel
theorem dX10_far_1 : decode cX10_far 1 = .ok (.aload_n 0, 1) := by decide +kernel
theorem dX10_far_2 : decode cX10_far 2 = .ok (.iload_n 1, 1) := by decide +kernel
theorem dX10_far_3 : decode cX10_far 3 = .ok (.bipush 6, 2) := by decide +kernel
theorem dX10_far_5 : decode cX10_far 5 = .ok (.idiv, 1) := by decide +kernel
theorem dX10_far_6 : decode cX10_far 6 = .ok (.iload_n 2, 1) := by decide +kernel
theorem dX10_far_7 : decode cX10_far 7 = .ok (.bipush 6, 2) := by decide +kernel
theorem dX10_far_9 : decode cX10_far 9 = .ok (.idiv, 1) := by decide +kernel
theorem dX10_far_10 : decode cX10_far 10 = .ok (.invokevirtual 224, 3) := by decide +kernel
theorem dX10_far_13 : decode cX10_far 13 = .ok (.aload_n 0, 1) := by decide +kernel
theorem dX10_far_14 : decode cX10_far 14 = .ok (.iload_n 1, 1) := by decide +kernel
theorem dX10_far_15 : decode cX10_far 15 = .ok (.bipush 6, 2) := by decide +kernel
theorem dX10_far_17 : decode cX10_far 17 = .ok (.irem, 1) := by decide +kernel
theorem dX10_far_18 : decode cX10_far 18 = .ok (.iload_n 2, 1) := by decide +kernel
theorem dX10_far_19 : decode cX10_far 19 = .ok (.bipush 6, 2) := by decide +kernel
theorem dX10_far_21 : decode cX10_far 21 = .ok (.irem, 1) := by decide +kernel
theorem dX10_far_22 : decode cX10_far 22 = .ok (.invokevirtual 224, 3) := by decide +kernel
theorem dX10_far_25 : decode cX10_far 25 = .ok (.invokevirtual 228, 3) := by decide +kernel
theorem dX10_far_28 : decode cX10_far 28 = .ok (.ireturn, 1) := by decide +kernel
theorem dX10_round_0 : decode cX10_round 0 = .ok (.aload_n 0, 1) := by decide +kernel
theorem dX10_round_1 : decode cX10_round 1 = .ok (.iload_n 1, 1) := by decide +kernel
theorem dX10_round_2 : decode cX10_round 2 = .ok (.bipush 6, 2) := by decide +kernel
theorem dX10_round_4 : decode cX10_round 4 = .ok (.idiv, 1) := by decide +kernel
theorem dX10_round_5 : decode cX10_round 5 = .ok (.iload_n 2, 1) := by decide +kernel
theorem dX10_round_6 : decode cX10_round 6 = .ok (.bipush 6, 2) := by decide +kernel
theorem dX10_round_8 : decode cX10_round 8 = .ok (.idiv, 1) := by decide +kernel
theorem dX10_round_9 : decode cX10_round 9 = .ok (.invokevirtual 224, 3) := by decide +kernel
theorem dX10_round_12 : decode cX10_round 12 = .ok (.aload_n 0, 1) := by decide +kernel
theorem dX10_round_13 : decode cX10_round 13 = .ok (.iload_n 1, 1) := by decide +kernel
theorem dX10_round_14 : decode cX10_round 14 = .ok (.bipush 6, 2) := by decide +kernel
theorem dX10_round_16 : decode cX10_round 16 = .ok (.irem, 1) := by decide +kernel
theorem dX10_round_17 : decode cX10_round 17 = .ok (.iload_n 2, 1) := by decide +kernel
theorem dX10_round_18 : decode cX10_round 18 = .ok (.bipush 6, 2) := by decide +kernel
theorem dX10_round_20 : decode cX10_round 20 = .ok (.irem, 1) := by decide +kernel
theorem dX10_round_21 : decode cX10_round 21 = .ok (.invokevirtual 224, 3) := by decide +kernel
theorem dX10_round_24 : decode cX10_round 24 = .ok (.iadd, 1) := by decide +kernel
theorem dX10_round_25 : decode cX10_round 25 = .ok (.ireturn, 1) := by decide +kernel
theorem dX10_beside_0 : decode cX10_beside 0 = .ok (.iload_n 2, 1) := by decide +kernel
theorem dX10_beside_1 : decode cX10_beside 1 = .ok (.tableswitch 73 0 2 #[27, 42, 57], 27) := by decide +kernel
theorem dX10_beside_28 : decode cX10_beside 28 = .ok (.iload_n 1, 1) := by decide +kernel
theorem dX10_beside_29 : decode cX10_beside 29 = .ok (.bipush 6, 2) := by decide +kernel
theorem dX10_beside_31 : decode cX10_beside 31 = .ok (.if_icmp .ge 7, 3) := by decide +kernel
theorem dX10_beside_34 : decode cX10_beside 34 = .ok (.iconst (-1), 1) := by decide +kernel
theorem dX10_beside_35 : decode cX10_beside 35 = .ok (.goto 7, 3) := by decide +kernel
theorem dX10_beside_38 : decode cX10_beside 38 = .ok (.iload_n 1, 1) := by decide +kernel
theorem dX10_beside_39 : decode cX10_beside 39 = .ok (.bipush 6, 2) := by decide +kernel
theorem dX10_beside_41 : decode cX10_beside 41 = .ok (.isub, 1) := by decide +kernel
theorem dX10_beside_42 : decode cX10_beside 42 = .ok (.ireturn, 1) := by decide +kernel
theorem dX10_beside_43 : decode cX10_beside 43 = .ok (.iload_n 1, 1) := by decide +kernel
theorem dX10_beside_44 : decode cX10_beside 44 = .ok (.bipush 6, 2) := by decide +kernel
theorem dX10_beside_46 : decode cX10_beside 46 = .ok (.irem, 1) := by decide +kernel
theorem dX10_beside_47 : decode cX10_beside 47 = .ok (.ifCond .ne 7, 3) := by decide +kernel
theorem dX10_beside_50 : decode cX10_beside 50 = .ok (.iconst (-1), 1) := by decide +kernel
theorem dX10_beside_51 : decode cX10_beside 51 = .ok (.goto 6, 3) := by decide +kernel
theorem dX10_beside_54 : decode cX10_beside 54 = .ok (.iload_n 1, 1) := by decide +kernel
theorem dX10_beside_55 : decode cX10_beside 55 = .ok (.iconst 1, 1) := by decide +kernel
theorem dX10_beside_56 : decode cX10_beside 56 = .ok (.isub, 1) := by decide +kernel
theorem dX10_beside_57 : decode cX10_beside 57 = .ok (.ireturn, 1) := by decide +kernel
theorem dX10_beside_58 : decode cX10_beside 58 = .ok (.iload_n 1, 1) := by decide +kernel
theorem dX10_beside_59 : decode cX10_beside 59 = .ok (.bipush 6, 2) := by decide +kernel
theorem dX10_beside_61 : decode cX10_beside 61 = .ok (.irem, 1) := by decide +kernel
theorem dX10_beside_62 : decode cX10_beside 62 = .ok (.iconst 5, 1) := by decide +kernel
theorem dX10_beside_63 : decode cX10_beside 63 = .ok (.if_icmp .ne 7, 3) := by decide +kernel
theorem dX10_beside_66 : decode cX10_beside 66 = .ok (.iconst (-1), 1) := by decide +kernel
theorem dX10_beside_67 : decode cX10_beside 67 = .ok (.goto 6, 3) := by decide +kernel
theorem dX10_beside_70 : decode cX10_beside 70 = .ok (.iload_n 1, 1) := by decide +kernel
theorem dX10_beside_71 : decode cX10_beside 71 = .ok (.iconst 1, 1) := by decide +kernel
theorem dX10_beside_72 : decode cX10_beside 72 = .ok (.iadd, 1) := by decide +kernel
theorem dX10_beside_73 : decode cX10_beside 73 = .ok (.ireturn, 1) := by decide +kernel
theorem dX10_beside_74 : decode cX10_beside 74 = .ok (.iload_n 1, 1) := by decide +kernel
theorem dX10_beside_75 : decode cX10_beside 75 = .ok (.bipush 29, 2) := by decide +kernel
theorem dX10_beside_77 : decode cX10_beside 77 = .ok (.if_icmp .le 7, 3) := by decide +kernel
theorem dX10_beside_80 : decode cX10_beside 80 = .ok (.iconst (-1), 1) := by decide +kernel
theorem dX10_beside_81 : decode cX10_beside 81 = .ok (.goto 7, 3) := by decide +kernel
theorem dX10_beside_84 : decode cX10_beside 84 = .ok (.iload_n 1, 1) := by decide +kernel
theorem dX10_beside_85 : decode cX10_beside 85 = .ok (.bipush 6, 2) := by decide +kernel
theorem dX10_beside_87 : decode cX10_beside 87 = .ok (.iadd, 1) := by decide +kernel
theorem dX10_beside_88 : decode cX10_beside 88 = .ok (.ireturn, 1) := by decide +kernel
theorem dX10_isBeast_0 : decode cX10_isBeast 0 = .ok (.aload_n 0, 1) := by decide +kernel
theorem dX10_isBeast_1 : decode cX10_isBeast 1 = .ok (.iload_n 1, 1) := by decide +kernel
theorem dX10_isBeast_2 : decode cX10_isBeast 2 = .ok (.iconst 0, 1) := by decide +kernel
theorem dX10_isBeast_3 : decode cX10_isBeast 3 = .ok (.aload_n 0, 1) := by decide +kernel
theorem dX10_isBeast_4 : decode cX10_isBeast 4 = .ok (.getfield 7, 3) := by decide +kernel
theorem dX10_isBeast_7 : decode cX10_isBeast 7 = .ok (.iconst 1, 1) := by decide +kernel
theorem dX10_isBeast_8 : decode cX10_isBeast 8 = .ok (.isub, 1) := by decide +kernel
theorem dX10_isBeast_9 : decode cX10_isBeast 9 = .ok (.invokevirtual 231, 3) := by decide +kernel
theorem dX10_isBeast_12 : decode cX10_isBeast 12 = .ok (.ireturn, 1) := by decide +kernel
theorem dX10_isCell_0 : decode cX10_isCell 0 = .ok (.aload_n 0, 1) := by decide +kernel
theorem dX10_isCell_1 : decode cX10_isCell 1 = .ok (.iload_n 1, 1) := by decide +kernel
theorem dX10_isCell_2 : decode cX10_isCell 2 = .ok (.iconst 0, 1) := by decide +kernel
theorem dX10_isCell_3 : decode cX10_isCell 3 = .ok (.bipush 35, 2) := by decide +kernel
theorem dX10_isCell_5 : decode cX10_isCell 5 = .ok (.invokevirtual 231, 3) := by decide +kernel
theorem dX10_isCell_8 : decode cX10_isCell 8 = .ok (.ireturn, 1) := by decide +kernel
theorem dX10_beastIn_0 : decode cX10_beastIn 0 = .ok (.iconst 0, 1) := by decide +kernel
theorem dX10_beastIn_1 : decode cX10_beastIn 1 = .ok (.istore_n 2, 1) := by decide +kernel
theorem dX10_beastIn_2 : decode cX10_beastIn 2 = .ok (.iload_n 2, 1) := by decide +kernel
theorem dX10_beastIn_3 : decode cX10_beastIn 3 = .ok (.aload_n 0, 1) := by decide +kernel
theorem dX10_beastIn_4 : decode cX10_beastIn 4 = .ok (.getfield 7, 3) := by decide +kernel
theorem dX10_beastIn_7 : decode cX10_beastIn 7 = .ok (.if_icmp .ge 21, 3) := by decide +kernel
theorem dX10_beastIn_10 : decode cX10_beastIn 10 = .ok (.aload_n 0, 1) := by decide +kernel
theorem dX10_beastIn_11 : decode cX10_beastIn 11 = .ok (.getfield 29, 3) := by decide +kernel
theorem dX10_beastIn_14 : decode cX10_beastIn 14 = .ok (.iload_n 2, 1) := by decide +kernel
theorem dX10_beastIn_15 : decode cX10_beastIn 15 = .ok (.iaload, 1) := by decide +kernel
theorem dX10_beastIn_16 : decode cX10_beastIn 16 = .ok (.iload_n 1, 1) := by decide +kernel
theorem dX10_beastIn_17 : decode cX10_beastIn 17 = .ok (.if_icmp .ne 5, 3) := by decide +kernel
theorem dX10_beastIn_20 : decode cX10_beastIn 20 = .ok (.iload_n 2, 1) := by decide +kernel
theorem dX10_beastIn_21 : decode cX10_beastIn 21 = .ok (.ireturn, 1) := by decide +kernel
theorem dX10_beastIn_22 : decode cX10_beastIn 22 = .ok (.iinc 2 1, 3) := by decide +kernel
theorem dX10_beastIn_25 : decode cX10_beastIn 25 = .ok (.goto (-23), 3) := by decide +kernel
theorem dX10_beastIn_28 : decode cX10_beastIn 28 = .ok (.iconst (-1), 1) := by decide +kernel
theorem dX10_beastIn_29 : decode cX10_beastIn 29 = .ok (.ireturn, 1) := by decide +kernel
theorem dX10_isStool_0 : decode cX10_isStool 0 = .ok (.iconst 0, 1) := by decide +kernel
theorem dX10_isStool_1 : decode cX10_isStool 1 = .ok (.istore_n 2, 1) := by decide +kernel
theorem dX10_isStool_2 : decode cX10_isStool 2 = .ok (.iload_n 2, 1) := by decide +kernel
theorem dX10_isStool_3 : decode cX10_isStool 3 = .ok (.aload_n 0, 1) := by decide +kernel
theorem dX10_isStool_4 : decode cX10_isStool 4 = .ok (.getfield 7, 3) := by decide +kernel
theorem dX10_isStool_7 : decode cX10_isStool 7 = .ok (.if_icmp .ge 21, 3) := by decide +kernel
theorem dX10_isStool_10 : decode cX10_isStool 10 = .ok (.aload_n 0, 1) := by decide +kernel
theorem dX10_isStool_11 : decode cX10_isStool 11 = .ok (.getfield 32, 3) := by decide +kernel
theorem dX10_isStool_14 : decode cX10_isStool 14 = .ok (.iload_n 2, 1) := by decide +kernel
theorem dX10_isStool_15 : decode cX10_isStool 15 = .ok (.iaload, 1) := by decide +kernel
theorem dX10_isStool_16 : decode cX10_isStool 16 = .ok (.iload_n 1, 1) := by decide +kernel
theorem dX10_isStool_17 : decode cX10_isStool 17 = .ok (.if_icmp .ne 5, 3) := by decide +kernel
theorem dX10_isStool_20 : decode cX10_isStool 20 = .ok (.iconst 1, 1) := by decide +kernel
theorem dX10_isStool_21 : decode cX10_isStool 21 = .ok (.ireturn, 1) := by decide +kernel
theorem dX10_isStool_22 : decode cX10_isStool 22 = .ok (.iinc 2 1, 3) := by decide +kernel
theorem dX10_isStool_25 : decode cX10_isStool 25 = .ok (.goto (-23), 3) := by decide +kernel
theorem dX10_isStool_28 : decode cX10_isStool 28 = .ok (.iconst 0, 1) := by decide +kernel
theorem dX10_isStool_29 : decode cX10_isStool 29 = .ok (.ireturn, 1) := by decide +kernel
theorem dX10_beast_0 : decode cX10_beast 0 = .ok (.aload_n 0, 1) := by decide +kernel
theorem dX10_beast_1 : decode cX10_beast 1 = .ok (.iload_n 1, 1) := by decide +kernel
theorem dX10_beast_2 : decode cX10_beast 2 = .ok (.iconst 0, 1) := by decide +kernel
theorem dX10_beast_3 : decode cX10_beast 3 = .ok (.bipush 6, 2) := by decide +kernel
theorem dX10_beast_5 : decode cX10_beast 5 = .ok (.invokevirtual 231, 3) := by decide +kernel
theorem dX10_beast_8 : decode cX10_beast 8 = .ok (.ifCond .eq 11, 3) := by decide +kernel
theorem dX10_beast_11 : decode cX10_beast 11 = .ok (.aload_n 0, 1) := by decide +kernel
theorem dX10_beast_12 : decode cX10_beast 12 = .ok (.iload_n 3, 1) := by decide +kernel
theorem dX10_beast_13 : decode cX10_beast 13 = .ok (.invokevirtual 235, 3) := by decide +kernel
theorem dX10_beast_16 : decode cX10_beast 16 = .ok (.ifCond .ne 5, 3) := by decide +kernel
theorem dX10_beast_19 : decode cX10_beast 19 = .ok (.iconst (-1), 1) := by decide +kernel
theorem dX10_beast_20 : decode cX10_beast 20 = .ok (.ireturn, 1) := by decide +kernel
theorem dX10_beast_21 : decode cX10_beast 21 = .ok (.aload_n 0, 1) := by decide +kernel
theorem dX10_beast_22 : decode cX10_beast 22 = .ok (.iload_n 2, 1) := by decide +kernel
theorem dX10_beast_23 : decode cX10_beast 23 = .ok (.iconst 0, 1) := by decide +kernel
theorem dX10_beast_24 : decode cX10_beast 24 = .ok (.bipush 9, 2) := by decide +kernel
theorem dX10_beast_26 : decode cX10_beast 26 = .ok (.invokevirtual 231, 3) := by decide +kernel
theorem dX10_beast_29 : decode cX10_beast 29 = .ok (.ifCond .eq 15, 3) := by decide +kernel
theorem dX10_beast_32 : decode cX10_beast 32 = .ok (.aload_n 0, 1) := by decide +kernel
theorem dX10_beast_33 : decode cX10_beast 33 = .ok (.iload 4, 2) := by decide +kernel
theorem dX10_beast_35 : decode cX10_beast 35 = .ok (.iconst 0, 1) := by decide +kernel
theorem dX10_beast_36 : decode cX10_beast 36 = .ok (.bipush 9, 2) := by decide +kernel
theorem dX10_beast_38 : decode cX10_beast 38 = .ok (.invokevirtual 231, 3) := by decide +kernel
theorem dX10_beast_41 : decode cX10_beast 41 = .ok (.ifCond .ne 6, 3) := by decide +kernel
theorem dX10_beast_44 : decode cX10_beast 44 = .ok (.bipush (-2), 2) := by decide +kernel
theorem dX10_beast_46 : decode cX10_beast 46 = .ok (.ireturn, 1) := by decide +kernel
theorem dX10_beast_47 : decode cX10_beast 47 = .ok (.aload_n 0, 1) := by decide +kernel
theorem dX10_beast_48 : decode cX10_beast 48 = .ok (.iload_n 3, 1) := by decide +kernel
theorem dX10_beast_49 : decode cX10_beast 49 = .ok (.invokevirtual 239, 3) := by decide +kernel
theorem dX10_beast_52 : decode cX10_beast 52 = .ok (.ifCond .ge 19, 3) := by decide +kernel
theorem dX10_beast_55 : decode cX10_beast 55 = .ok (.aload_n 0, 1) := by decide +kernel
theorem dX10_beast_56 : decode cX10_beast 56 = .ok (.getfield 13, 3) := by decide +kernel
theorem dX10_beast_59 : decode cX10_beast 59 = .ok (.iload_n 3, 1) := by decide +kernel
theorem dX10_beast_60 : decode cX10_beast 60 = .ok (.if_icmp .eq 11, 3) := by decide +kernel
theorem dX10_beast_63 : decode cX10_beast 63 = .ok (.aload_n 0, 1) := by decide +kernel
theorem dX10_beast_64 : decode cX10_beast 64 = .ok (.iload_n 3, 1) := by decide +kernel
