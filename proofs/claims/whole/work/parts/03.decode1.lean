theorem dX6_goTo_5 : decode cX6_goTo 5 = .ok (.if_icmp .ne 5, 3) := by decide +kernel
theorem dX6_goTo_8 : decode cX6_goTo 8 = .ok (.iconst 1, 1) := by decide +kernel
theorem dX6_goTo_9 : decode cX6_goTo 9 = .ok (.ireturn, 1) := by decide +kernel
theorem dX6_goTo_10 : decode cX6_goTo 10 = .ok (.iload_n 1, 1) := by decide +kernel
theorem dX6_goTo_11 : decode cX6_goTo 11 = .ok (.aload_n 0, 1) := by decide +kernel
theorem dX6_goTo_12 : decode cX6_goTo 12 = .ok (.getfield 41, 3) := by decide +kernel
theorem dX6_goTo_15 : decode cX6_goTo 15 = .ok (.invokestatic 99, 3) := by decide +kernel
theorem dX6_goTo_18 : decode cX6_goTo 18 = .ok (.iconst 1, 1) := by decide +kernel
theorem dX6_goTo_19 : decode cX6_goTo 19 = .ok (.if_icmp .ne 11, 3) := by decide +kernel
theorem dX6_goTo_22 : decode cX6_goTo 22 = .ok (.aload_n 0, 1) := by decide +kernel
theorem dX6_goTo_23 : decode cX6_goTo 23 = .ok (.iload_n 1, 1) := by decide +kernel
theorem dX6_goTo_24 : decode cX6_goTo 24 = .ok (.invokevirtual 85, 3) := by decide +kernel
theorem dX6_goTo_27 : decode cX6_goTo 27 = .ok (.ifCond .eq 5, 3) := by decide +kernel
theorem dX6_goTo_30 : decode cX6_goTo 30 = .ok (.iconst 0, 1) := by decide +kernel
theorem dX6_goTo_31 : decode cX6_goTo 31 = .ok (.ireturn, 1) := by decide +kernel
theorem dX6_goTo_32 : decode cX6_goTo 32 = .ok (.aload_n 0, 1) := by decide +kernel
theorem dX6_goTo_33 : decode cX6_goTo 33 = .ok (.iload_n 1, 1) := by decide +kernel
theorem dX6_goTo_34 : decode cX6_goTo 34 = .ok (.putfield 41, 3) := by decide +kernel
theorem dX6_goTo_37 : decode cX6_goTo 37 = .ok (.iconst 1, 1) := by decide +kernel
theorem dX6_goTo_38 : decode cX6_goTo 38 = .ok (.ireturn, 1) := by decide +kernel
theorem dX6_passTenth_0 : decode cX6_passTenth 0 = .ok (.iconst 0, 1) := by decide +kernel
theorem dX6_passTenth_1 : decode cX6_passTenth 1 = .ok (.istore_n 1, 1) := by decide +kernel
theorem dX6_passTenth_2 : decode cX6_passTenth 2 = .ok (.iload_n 1, 1) := by decide +kernel
theorem dX6_passTenth_3 : decode cX6_passTenth 3 = .ok (.aload_n 0, 1) := by decide +kernel
theorem dX6_passTenth_4 : decode cX6_passTenth 4 = .ok (.invokevirtual 71, 3) := by decide +kernel
theorem dX6_passTenth_7 : decode cX6_passTenth 7 = .ok (.if_icmp .ge 27, 3) := by decide +kernel
theorem dX6_passTenth_10 : decode cX6_passTenth 10 = .ok (.aload_n 0, 1) := by decide +kernel
theorem dX6_passTenth_11 : decode cX6_passTenth 11 = .ok (.iload_n 1, 1) := by decide +kernel
theorem dX6_passTenth_12 : decode cX6_passTenth 12 = .ok (.invokevirtual 103, 3) := by decide +kernel
theorem dX6_passTenth_15 : decode cX6_passTenth 15 = .ok (.pop, 1) := by decide +kernel
theorem dX6_passTenth_16 : decode cX6_passTenth 16 = .ok (.aload_n 0, 1) := by decide +kernel
theorem dX6_passTenth_17 : decode cX6_passTenth 17 = .ok (.getfield 23, 3) := by decide +kernel
theorem dX6_passTenth_20 : decode cX6_passTenth 20 = .ok (.iload_n 1, 1) := by decide +kernel
theorem dX6_passTenth_21 : decode cX6_passTenth 21 = .ok (.aload_n 0, 1) := by decide +kernel
theorem dX6_passTenth_22 : decode cX6_passTenth 22 = .ok (.getfield 65, 3) := by decide +kernel
theorem dX6_passTenth_25 : decode cX6_passTenth 25 = .ok (.invokevirtual 92, 3) := by decide +kernel
theorem dX6_passTenth_28 : decode cX6_passTenth 28 = .ok (.iinc 1 1, 3) := by decide +kernel
theorem dX6_passTenth_31 : decode cX6_passTenth 31 = .ok (.goto (-29), 3) := by decide +kernel
theorem dX6_passTenth_34 : decode cX6_passTenth 34 = .ok (.aload_n 0, 1) := by decide +kernel
theorem dX6_passTenth_35 : decode cX6_passTenth 35 = .ok (.dup, 1) := by decide +kernel
theorem dX6_passTenth_36 : decode cX6_passTenth 36 = .ok (.getfield 45, 3) := by decide +kernel
theorem dX6_passTenth_39 : decode cX6_passTenth 39 = .ok (.iconst 1, 1) := by decide +kernel
theorem dX6_passTenth_40 : decode cX6_passTenth 40 = .ok (.iadd, 1) := by decide +kernel
theorem dX6_passTenth_41 : decode cX6_passTenth 41 = .ok (.putfield 45, 3) := by decide +kernel
theorem dX6_passTenth_44 : decode cX6_passTenth 44 = .ok (.return_, 1) := by decide +kernel
theorem dX6_anyComes_0 : decode cX6_anyComes 0 = .ok (.iconst 0, 1) := by decide +kernel
theorem dX6_anyComes_1 : decode cX6_anyComes 1 = .ok (.istore_n 1, 1) := by decide +kernel
theorem dX6_anyComes_2 : decode cX6_anyComes 2 = .ok (.iload_n 1, 1) := by decide +kernel
theorem dX6_anyComes_3 : decode cX6_anyComes 3 = .ok (.aload_n 0, 1) := by decide +kernel
theorem dX6_anyComes_4 : decode cX6_anyComes 4 = .ok (.invokevirtual 71, 3) := by decide +kernel
theorem dX6_anyComes_7 : decode cX6_anyComes 7 = .ok (.if_icmp .ge 20, 3) := by decide +kernel
theorem dX6_anyComes_10 : decode cX6_anyComes 10 = .ok (.aload_n 0, 1) := by decide +kernel
theorem dX6_anyComes_11 : decode cX6_anyComes 11 = .ok (.iload_n 1, 1) := by decide +kernel
theorem dX6_anyComes_12 : decode cX6_anyComes 12 = .ok (.invokevirtual 103, 3) := by decide +kernel
theorem dX6_anyComes_15 : decode cX6_anyComes 15 = .ok (.iconst 2, 1) := by decide +kernel
theorem dX6_anyComes_16 : decode cX6_anyComes 16 = .ok (.if_icmp .ne 5, 3) := by decide +kernel
theorem dX6_anyComes_19 : decode cX6_anyComes 19 = .ok (.iconst 1, 1) := by decide +kernel
theorem dX6_anyComes_20 : decode cX6_anyComes 20 = .ok (.ireturn, 1) := by decide +kernel
theorem dX6_anyComes_21 : decode cX6_anyComes 21 = .ok (.iinc 1 1, 3) := by decide +kernel
theorem dX6_anyComes_24 : decode cX6_anyComes 24 = .ok (.goto (-22), 3) := by decide +kernel
theorem dX6_anyComes_27 : decode cX6_anyComes 27 = .ok (.iconst 0, 1) := by decide +kernel
theorem dX6_anyComes_28 : decode cX6_anyComes 28 = .ok (.ireturn, 1) := by decide +kernel
theorem dX6_leavesAlone_0 : decode cX6_leavesAlone 0 = .ok (.iconst 0, 1) := by decide +kernel
theorem dX6_leavesAlone_1 : decode cX6_leavesAlone 1 = .ok (.istore_n 2, 1) := by decide +kernel
theorem dX6_leavesAlone_2 : decode cX6_leavesAlone 2 = .ok (.iload_n 2, 1) := by decide +kernel
theorem dX6_leavesAlone_3 : decode cX6_leavesAlone 3 = .ok (.aload_n 0, 1) := by decide +kernel
theorem dX6_leavesAlone_4 : decode cX6_leavesAlone 4 = .ok (.invokevirtual 71, 3) := by decide +kernel
theorem dX6_leavesAlone_7 : decode cX6_leavesAlone 7 = .ok (.if_icmp .ge 37, 3) := by decide +kernel
theorem dX6_leavesAlone_10 : decode cX6_leavesAlone 10 = .ok (.aload_n 0, 1) := by decide +kernel
theorem dX6_leavesAlone_11 : decode cX6_leavesAlone 11 = .ok (.iload_n 2, 1) := by decide +kernel
theorem dX6_leavesAlone_12 : decode cX6_leavesAlone 12 = .ok (.invokevirtual 103, 3) := by decide +kernel
theorem dX6_leavesAlone_15 : decode cX6_leavesAlone 15 = .ok (.ifCond .eq 7, 3) := by decide +kernel
theorem dX6_leavesAlone_18 : decode cX6_leavesAlone 18 = .ok (.iconst 1, 1) := by decide +kernel
theorem dX6_leavesAlone_19 : decode cX6_leavesAlone 19 = .ok (.goto 4, 3) := by decide +kernel
theorem dX6_leavesAlone_22 : decode cX6_leavesAlone 22 = .ok (.iconst 0, 1) := by decide +kernel
theorem dX6_leavesAlone_23 : decode cX6_leavesAlone 23 = .ok (.iload_n 2, 1) := by decide +kernel
theorem dX6_leavesAlone_24 : decode cX6_leavesAlone 24 = .ok (.iload_n 1, 1) := by decide +kernel
theorem dX6_leavesAlone_25 : decode cX6_leavesAlone 25 = .ok (.if_icmp .ne 7, 3) := by decide +kernel
theorem dX6_leavesAlone_28 : decode cX6_leavesAlone 28 = .ok (.iconst 1, 1) := by decide +kernel
theorem dX6_leavesAlone_29 : decode cX6_leavesAlone 29 = .ok (.goto 4, 3) := by decide +kernel
theorem dX6_leavesAlone_32 : decode cX6_leavesAlone 32 = .ok (.iconst 0, 1) := by decide +kernel
theorem dX6_leavesAlone_33 : decode cX6_leavesAlone 33 = .ok (.if_icmp .eq 5, 3) := by decide +kernel
theorem dX6_leavesAlone_36 : decode cX6_leavesAlone 36 = .ok (.iconst 0, 1) := by decide +kernel
theorem dX6_leavesAlone_37 : decode cX6_leavesAlone 37 = .ok (.ireturn, 1) := by decide +kernel
theorem dX6_leavesAlone_38 : decode cX6_leavesAlone 38 = .ok (.iinc 2 1, 3) := by decide +kernel
theorem dX6_leavesAlone_41 : decode cX6_leavesAlone 41 = .ok (.goto (-39), 3) := by decide +kernel
theorem dX6_leavesAlone_44 : decode cX6_leavesAlone 44 = .ok (.iconst 1, 1) := by decide +kernel
theorem dX6_leavesAlone_45 : decode cX6_leavesAlone 45 = .ok (.ireturn, 1) := by decide +kernel
theorem dX6_lookAt_0 : decode cX6_lookAt 0 = .ok (.aload_n 0, 1) := by decide +kernel
theorem dX6_lookAt_1 : decode cX6_lookAt 1 = .ok (.getfield 61, 3) := by decide +kernel
theorem dX6_lookAt_4 : decode cX6_lookAt 4 = .ok (.iload_n 1, 1) := by decide +kernel
theorem dX6_lookAt_5 : decode cX6_lookAt 5 = .ok (.putfield 106, 3) := by decide +kernel
theorem dX6_lookAt_8 : decode cX6_lookAt 8 = .ok (.aload_n 0, 1) := by decide +kernel
theorem dX6_lookAt_9 : decode cX6_lookAt 9 = .ok (.getfield 61, 3) := by decide +kernel
theorem dX6_lookAt_12 : decode cX6_lookAt 12 = .ok (.aload_n 0, 1) := by decide +kernel
theorem dX6_lookAt_13 : decode cX6_lookAt 13 = .ok (.getfield 29, 3) := by decide +kernel
theorem dX6_lookAt_16 : decode cX6_lookAt 16 = .ok (.iload_n 1, 1) := by decide +kernel
theorem dX6_lookAt_17 : decode cX6_lookAt 17 = .ok (.invokevirtual 89, 3) := by decide +kernel
theorem dX6_lookAt_20 : decode cX6_lookAt 20 = .ok (.putfield 109, 3) := by decide +kernel
theorem dX6_lookAt_23 : decode cX6_lookAt 23 = .ok (.aload_n 0, 1) := by decide +kernel
theorem dX6_lookAt_24 : decode cX6_lookAt 24 = .ok (.getfield 61, 3) := by decide +kernel
theorem dX6_lookAt_27 : decode cX6_lookAt 27 = .ok (.aload_n 0, 1) := by decide +kernel
theorem dX6_lookAt_28 : decode cX6_lookAt 28 = .ok (.iload_n 1, 1) := by decide +kernel
theorem dX6_lookAt_29 : decode cX6_lookAt 29 = .ok (.invokevirtual 111, 3) := by decide +kernel
theorem dX6_lookAt_32 : decode cX6_lookAt 32 = .ok (.putfield 114, 3) := by decide +kernel
theorem dX6_lookAt_35 : decode cX6_lookAt 35 = .ok (.aload_n 0, 1) := by decide +kernel
theorem dX6_lookAt_36 : decode cX6_lookAt 36 = .ok (.getfield 61, 3) := by decide +kernel
theorem dX6_lookAt_39 : decode cX6_lookAt 39 = .ok (.aload_n 0, 1) := by decide +kernel
theorem dX6_lookAt_40 : decode cX6_lookAt 40 = .ok (.aload_n 0, 1) := by decide +kernel
theorem dX6_lookAt_41 : decode cX6_lookAt 41 = .ok (.getfield 23, 3) := by decide +kernel
theorem dX6_lookAt_44 : decode cX6_lookAt 44 = .ok (.iload_n 1, 1) := by decide +kernel
theorem dX6_lookAt_45 : decode cX6_lookAt 45 = .ok (.invokevirtual 89, 3) := by decide +kernel
theorem dX6_lookAt_48 : decode cX6_lookAt 48 = .ok (.invokevirtual 117, 3) := by decide +kernel
theorem dX6_lookAt_51 : decode cX6_lookAt 51 = .ok (.putfield 120, 3) := by decide +kernel
theorem dX6_lookAt_54 : decode cX6_lookAt 54 = .ok (.aload_n 0, 1) := by decide +kernel
theorem dX6_lookAt_55 : decode cX6_lookAt 55 = .ok (.getfield 61, 3) := by decide +kernel
theorem dX6_lookAt_58 : decode cX6_lookAt 58 = .ok (.aload_n 0, 1) := by decide +kernel
theorem dX6_lookAt_59 : decode cX6_lookAt 59 = .ok (.getfield 45, 3) := by decide +kernel
theorem dX6_lookAt_62 : decode cX6_lookAt 62 = .ok (.bipush 60, 2) := by decide +kernel
theorem dX6_lookAt_64 : decode cX6_lookAt 64 = .ok (.irem, 1) := by decide +kernel
theorem dX6_lookAt_65 : decode cX6_lookAt 65 = .ok (.putfield 123, 3) := by decide +kernel
theorem dX6_lookAt_68 : decode cX6_lookAt 68 = .ok (.aload_n 0, 1) := by decide +kernel
theorem dX6_lookAt_69 : decode cX6_lookAt 69 = .ok (.getfield 61, 3) := by decide +kernel
theorem dX6_lookAt_72 : decode cX6_lookAt 72 = .ok (.iconst 0, 1) := by decide +kernel
theorem dX6_lookAt_73 : decode cX6_lookAt 73 = .ok (.putfield 126, 3) := by decide +kernel
theorem dX6_lookAt_76 : decode cX6_lookAt 76 = .ok (.aload_n 0, 1) := by decide +kernel
theorem dX6_lookAt_77 : decode cX6_lookAt 77 = .ok (.getfield 61, 3) := by decide +kernel
theorem dX6_lookAt_80 : decode cX6_lookAt 80 = .ok (.iconst 0, 1) := by decide +kernel
theorem dX6_lookAt_81 : decode cX6_lookAt 81 = .ok (.putfield 129, 3) := by decide +kernel
theorem dX6_lookAt_84 : decode cX6_lookAt 84 = .ok (.aload_n 0, 1) := by decide +kernel
theorem dX6_lookAt_85 : decode cX6_lookAt 85 = .ok (.getfield 51, 3) := by decide +kernel
theorem dX6_lookAt_88 : decode cX6_lookAt 88 = .ok (.ifnull 14, 3) := by decide +kernel
theorem dX6_lookAt_91 : decode cX6_lookAt 91 = .ok (.aload_n 0, 1) := by decide +kernel
theorem dX6_lookAt_92 : decode cX6_lookAt 92 = .ok (.getfield 51, 3) := by decide +kernel
theorem dX6_lookAt_95 : decode cX6_lookAt 95 = .ok (.aload_n 0, 1) := by decide +kernel
theorem dX6_lookAt_96 : decode cX6_lookAt 96 = .ok (.getfield 61, 3) := by decide +kernel
theorem dX6_lookAt_99 : decode cX6_lookAt 99 = .ok (.invokevirtual 132, 3) := by decide +kernel
theorem dX6_lookAt_102 : decode cX6_lookAt 102 = .ok (.aload_n 0, 1) := by decide +kernel
theorem dX6_lookAt_103 : decode cX6_lookAt 103 = .ok (.getfield 61, 3) := by decide +kernel
theorem dX6_lookAt_106 : decode cX6_lookAt 106 = .ok (.aload_n 0, 1) := by decide +kernel
theorem dX6_lookAt_107 : decode cX6_lookAt 107 = .ok (.getfield 61, 3) := by decide +kernel
theorem dX6_lookAt_110 : decode cX6_lookAt 110 = .ok (.getfield 126, 3) := by decide +kernel
theorem dX6_lookAt_113 : decode cX6_lookAt 113 = .ok (.bipush 9, 2) := by decide +kernel
theorem dX6_lookAt_115 : decode cX6_lookAt 115 = .ok (.invokestatic 138, 3) := by decide +kernel
theorem dX6_lookAt_118 : decode cX6_lookAt 118 = .ok (.putfield 126, 3) := by decide +kernel
theorem dX6_lookAt_121 : decode cX6_lookAt 121 = .ok (.aload_n 0, 1) := by decide +kernel
theorem dX6_lookAt_122 : decode cX6_lookAt 122 = .ok (.getfield 61, 3) := by decide +kernel
theorem dX6_lookAt_125 : decode cX6_lookAt 125 = .ok (.iconst 0, 1) := by decide +kernel
theorem dX6_lookAt_126 : decode cX6_lookAt 126 = .ok (.aload_n 0, 1) := by decide +kernel
theorem dX6_lookAt_127 : decode cX6_lookAt 127 = .ok (.getfield 61, 3) := by decide +kernel
theorem dX6_lookAt_130 : decode cX6_lookAt 130 = .ok (.getfield 129, 3) := by decide +kernel
theorem dX6_lookAt_133 : decode cX6_lookAt 133 = .ok (.aload_n 0, 1) := by decide +kernel
theorem dX6_lookAt_134 : decode cX6_lookAt 134 = .ok (.getfield 61, 3) := by decide +kernel
theorem dX6_lookAt_137 : decode cX6_lookAt 137 = .ok (.getfield 126, 3) := by decide +kernel
theorem dX6_lookAt_140 : decode cX6_lookAt 140 = .ok (.iconst 1, 1) := by decide +kernel
theorem dX6_lookAt_141 : decode cX6_lookAt 141 = .ok (.isub, 1) := by decide +kernel
theorem dX6_lookAt_142 : decode cX6_lookAt 142 = .ok (.invokestatic 138, 3) := by decide +kernel
theorem dX6_lookAt_145 : decode cX6_lookAt 145 = .ok (.invokestatic 143, 3) := by decide +kernel
theorem dX6_lookAt_148 : decode cX6_lookAt 148 = .ok (.putfield 129, 3) := by decide +kernel
theorem dX6_lookAt_151 : decode cX6_lookAt 151 = .ok (.aload_n 0, 1) := by decide +kernel
theorem dX6_lookAt_152 : decode cX6_lookAt 152 = .ok (.getfield 14, 3) := by decide +kernel
theorem dX6_lookAt_155 : decode cX6_lookAt 155 = .ok (.iload_n 1, 1) := by decide +kernel
theorem dX6_lookAt_156 : decode cX6_lookAt 156 = .ok (.invokevirtual 89, 3) := by decide +kernel
theorem dX6_lookAt_159 : decode cX6_lookAt 159 = .ok (.iconst 2, 1) := by decide +kernel
theorem dX6_lookAt_160 : decode cX6_lookAt 160 = .ok (.invokestatic 146, 3) := by decide +kernel
theorem dX6_lookAt_163 : decode cX6_lookAt 163 = .ok (.ifCond .eq 23, 3) := by decide +kernel
theorem dX6_lookAt_166 : decode cX6_lookAt 166 = .ok (.aload_n 0, 1) := by decide +kernel
theorem dX6_lookAt_167 : decode cX6_lookAt 167 = .ok (.getfield 61, 3) := by decide +kernel
theorem dX6_lookAt_170 : decode cX6_lookAt 170 = .ok (.dup, 1) := by decide +kernel
theorem dX6_lookAt_171 : decode cX6_lookAt 171 = .ok (.getfield 129, 3) := by decide +kernel
theorem dX6_lookAt_174 : decode cX6_lookAt 174 = .ok (.aload_n 0, 1) := by decide +kernel
theorem dX6_lookAt_175 : decode cX6_lookAt 175 = .ok (.getfield 20, 3) := by decide +kernel
theorem dX6_lookAt_178 : decode cX6_lookAt 178 = .ok (.iload_n 1, 1) := by decide +kernel
theorem dX6_lookAt_179 : decode cX6_lookAt 179 = .ok (.invokevirtual 89, 3) := by decide +kernel
theorem dX6_lookAt_182 : decode cX6_lookAt 182 = .ok (.iadd, 1) := by decide +kernel
theorem dX6_lookAt_183 : decode cX6_lookAt 183 = .ok (.putfield 129, 3) := by decide +kernel
theorem dX6_lookAt_186 : decode cX6_lookAt 186 = .ok (.aload_n 0, 1) := by decide +kernel
theorem dX6_lookAt_187 : decode cX6_lookAt 187 = .ok (.getfield 61, 3) := by decide +kernel
theorem dX6_lookAt_190 : decode cX6_lookAt 190 = .ok (.dup, 1) := by decide +kernel
theorem dX6_lookAt_191 : decode cX6_lookAt 191 = .ok (.getfield 126, 3) := by decide +kernel
theorem dX6_lookAt_194 : decode cX6_lookAt 194 = .ok (.aload_n 0, 1) := by decide +kernel
theorem dX6_lookAt_195 : decode cX6_lookAt 195 = .ok (.getfield 55, 3) := by decide +kernel
theorem dX6_lookAt_198 : decode cX6_lookAt 198 = .ok (.iadd, 1) := by decide +kernel
theorem dX6_lookAt_199 : decode cX6_lookAt 199 = .ok (.putfield 126, 3) := by decide +kernel
theorem dX6_lookAt_202 : decode cX6_lookAt 202 = .ok (.aload_n 0, 1) := by decide +kernel
theorem dX6_lookAt_203 : decode cX6_lookAt 203 = .ok (.getfield 61, 3) := by decide +kernel
theorem dX6_lookAt_206 : decode cX6_lookAt 206 = .ok (.dup, 1) := by decide +kernel
theorem dX6_lookAt_207 : decode cX6_lookAt 207 = .ok (.getfield 129, 3) := by decide +kernel
theorem dX6_lookAt_210 : decode cX6_lookAt 210 = .ok (.aload_n 0, 1) := by decide +kernel
theorem dX6_lookAt_211 : decode cX6_lookAt 211 = .ok (.getfield 55, 3) := by decide +kernel
theorem dX6_lookAt_214 : decode cX6_lookAt 214 = .ok (.iadd, 1) := by decide +kernel
theorem dX6_lookAt_215 : decode cX6_lookAt 215 = .ok (.putfield 129, 3) := by decide +kernel
theorem dX6_lookAt_218 : decode cX6_lookAt 218 = .ok (.return_, 1) := by decide +kernel
theorem dX6_nearOnes_0 : decode cX6_nearOnes 0 = .ok (.iconst 0, 1) := by decide +kernel
theorem dX6_nearOnes_1 : decode cX6_nearOnes 1 = .ok (.istore_n 2, 1) := by decide +kernel
theorem dX6_nearOnes_2 : decode cX6_nearOnes 2 = .ok (.iconst 0, 1) := by decide +kernel
theorem dX6_nearOnes_3 : decode cX6_nearOnes 3 = .ok (.istore_n 3, 1) := by decide +kernel
theorem dX6_nearOnes_4 : decode cX6_nearOnes 4 = .ok (.iload_n 3, 1) := by decide +kernel
theorem dX6_nearOnes_5 : decode cX6_nearOnes 5 = .ok (.aload_n 0, 1) := by decide +kernel
theorem dX6_nearOnes_6 : decode cX6_nearOnes 6 = .ok (.invokevirtual 71, 3) := by decide +kernel
theorem dX6_nearOnes_9 : decode cX6_nearOnes 9 = .ok (.if_icmp .ge 40, 3) := by decide +kernel
theorem dX6_nearOnes_12 : decode cX6_nearOnes 12 = .ok (.iload_n 3, 1) := by decide +kernel
theorem dX6_nearOnes_13 : decode cX6_nearOnes 13 = .ok (.iload_n 1, 1) := by decide +kernel
theorem dX6_nearOnes_14 : decode cX6_nearOnes 14 = .ok (.if_icmp .eq 29, 3) := by decide +kernel
theorem dX6_nearOnes_17 : decode cX6_nearOnes 17 = .ok (.aload_n 0, 1) := by decide +kernel
theorem dX6_nearOnes_18 : decode cX6_nearOnes 18 = .ok (.getfield 23, 3) := by decide +kernel
theorem dX6_nearOnes_21 : decode cX6_nearOnes 21 = .ok (.iload_n 3, 1) := by decide +kernel
theorem dX6_nearOnes_22 : decode cX6_nearOnes 22 = .ok (.invokevirtual 89, 3) := by decide +kernel
theorem dX6_nearOnes_25 : decode cX6_nearOnes 25 = .ok (.aload_n 0, 1) := by decide +kernel
theorem dX6_nearOnes_26 : decode cX6_nearOnes 26 = .ok (.getfield 23, 3) := by decide +kernel
theorem dX6_nearOnes_29 : decode cX6_nearOnes 29 = .ok (.iload_n 1, 1) := by decide +kernel
theorem dX6_nearOnes_30 : decode cX6_nearOnes 30 = .ok (.invokevirtual 89, 3) := by decide +kernel
theorem dX6_nearOnes_33 : decode cX6_nearOnes 33 = .ok (.invokestatic 150, 3) := by decide +kernel
theorem dX6_nearOnes_36 : decode cX6_nearOnes 36 = .ok (.iconst 2, 1) := by decide +kernel
theorem dX6_nearOnes_37 : decode cX6_nearOnes 37 = .ok (.if_icmp .gt 6, 3) := by decide +kernel
theorem dX6_nearOnes_40 : decode cX6_nearOnes 40 = .ok (.iinc 2 1, 3) := by decide +kernel
theorem dX6_nearOnes_43 : decode cX6_nearOnes 43 = .ok (.iinc 3 1, 3) := by decide +kernel
theorem dX6_nearOnes_46 : decode cX6_nearOnes 46 = .ok (.goto (-42), 3) := by decide +kernel
theorem dX6_nearOnes_49 : decode cX6_nearOnes 49 = .ok (.iload_n 2, 1) := by decide +kernel
theorem dX6_nearOnes_50 : decode cX6_nearOnes 50 = .ok (.ireturn, 1) := by decide +kernel
theorem dX6_shutSides_0 : decode cX6_shutSides 0 = .ok (.iconst 0, 1) := by decide +kernel
theorem dX6_shutSides_1 : decode cX6_shutSides 1 = .ok (.istore_n 2, 1) := by decide +kernel
theorem dX6_shutSides_2 : decode cX6_shutSides 2 = .ok (.iconst 0, 1) := by decide +kernel
theorem dX6_shutSides_3 : decode cX6_shutSides 3 = .ok (.istore_n 3, 1) := by decide +kernel
theorem dX6_shutSides_4 : decode cX6_shutSides 4 = .ok (.iload_n 3, 1) := by decide +kernel
theorem dX6_shutSides_5 : decode cX6_shutSides 5 = .ok (.iconst 4, 1) := by decide +kernel
theorem dX6_shutSides_6 : decode cX6_shutSides 6 = .ok (.if_icmp .ge 34, 3) := by decide +kernel
theorem dX6_shutSides_9 : decode cX6_shutSides 9 = .ok (.iload_n 1, 1) := by decide +kernel
theorem dX6_shutSides_10 : decode cX6_shutSides 10 = .ok (.iload_n 3, 1) := by decide +kernel
theorem dX6_shutSides_11 : decode cX6_shutSides 11 = .ok (.invokestatic 153, 3) := by decide +kernel
theorem dX6_shutSides_14 : decode cX6_shutSides 14 = .ok (.istore 4, 2) := by decide +kernel
theorem dX6_shutSides_16 : decode cX6_shutSides 16 = .ok (.iload 4, 2) := by decide +kernel
theorem dX6_shutSides_18 : decode cX6_shutSides 18 = .ok (.iconst (-1), 1) := by decide +kernel
theorem dX6_shutSides_19 : decode cX6_shutSides 19 = .ok (.if_icmp .eq 12, 3) := by decide +kernel
theorem dX6_shutSides_22 : decode cX6_shutSides 22 = .ok (.aload_n 0, 1) := by decide +kernel
theorem dX6_shutSides_23 : decode cX6_shutSides 23 = .ok (.iload 4, 2) := by decide +kernel
theorem dX6_shutSides_25 : decode cX6_shutSides 25 = .ok (.invokevirtual 85, 3) := by decide +kernel
theorem dX6_shutSides_28 : decode cX6_shutSides 28 = .ok (.ifCond .eq 6, 3) := by decide +kernel
theorem dX6_shutSides_31 : decode cX6_shutSides 31 = .ok (.iinc 2 1, 3) := by decide +kernel
theorem dX6_shutSides_34 : decode cX6_shutSides 34 = .ok (.iinc 3 1, 3) := by decide +kernel
theorem dX6_shutSides_37 : decode cX6_shutSides 37 = .ok (.goto (-33), 3) := by decide +kernel
theorem dX6_shutSides_40 : decode cX6_shutSides 40 = .ok (.iload_n 2, 1) := by decide +kernel
theorem dX6_shutSides_41 : decode cX6_shutSides 41 = .ok (.ireturn, 1) := by decide +kernel
theorem dX6_deedOf_0 : decode cX6_deedOf 0 = .ok (.aload_n 0, 1) := by decide +kernel
theorem dX6_deedOf_1 : decode cX6_deedOf 1 = .ok (.iload_n 1, 1) := by decide +kernel
theorem dX6_deedOf_2 : decode cX6_deedOf 2 = .ok (.invokevirtual 156, 3) := by decide +kernel
theorem dX6_deedOf_5 : decode cX6_deedOf 5 = .ok (.aload_n 0, 1) := by decide +kernel
theorem dX6_deedOf_6 : decode cX6_deedOf 6 = .ok (.getfield 23, 3) := by decide +kernel
theorem dX6_deedOf_9 : decode cX6_deedOf 9 = .ok (.iload_n 1, 1) := by decide +kernel
theorem dX6_deedOf_10 : decode cX6_deedOf 10 = .ok (.invokevirtual 89, 3) := by decide +kernel
theorem dX6_deedOf_13 : decode cX6_deedOf 13 = .ok (.istore_n 2, 1) := by decide +kernel
theorem dX6_deedOf_14 : decode cX6_deedOf 14 = .ok (.aload_n 0, 1) := by decide +kernel
theorem dX6_deedOf_15 : decode cX6_deedOf 15 = .ok (.getfield 14, 3) := by decide +kernel
theorem dX6_deedOf_18 : decode cX6_deedOf 18 = .ok (.iload_n 1, 1) := by decide +kernel
theorem dX6_deedOf_19 : decode cX6_deedOf 19 = .ok (.invokevirtual 89, 3) := by decide +kernel
theorem dX6_deedOf_22 : decode cX6_deedOf 22 = .ok (.istore_n 3, 1) := by decide +kernel
theorem dX6_deedOf_23 : decode cX6_deedOf 23 = .ok (.iload_n 2, 1) := by decide +kernel
theorem dX6_deedOf_24 : decode cX6_deedOf 24 = .ok (.aload_n 0, 1) := by decide +kernel
theorem dX6_deedOf_25 : decode cX6_deedOf 25 = .ok (.getfield 41, 3) := by decide +kernel
theorem dX6_deedOf_28 : decode cX6_deedOf 28 = .ok (.invokestatic 150, 3) := by decide +kernel
theorem dX6_deedOf_31 : decode cX6_deedOf 31 = .ok (.istore 4, 2) := by decide +kernel
theorem dX6_deedOf_33 : decode cX6_deedOf 33 = .ok (.aload_n 0, 1) := by decide +kernel
theorem dX6_deedOf_34 : decode cX6_deedOf 34 = .ok (.iload_n 2, 1) := by decide +kernel
theorem dX6_deedOf_35 : decode cX6_deedOf 35 = .ok (.putfield 65, 3) := by decide +kernel
theorem dX6_deedOf_38 : decode cX6_deedOf 38 = .ok (.iload_n 3, 1) := by decide +kernel
theorem dX6_deedOf_39 : decode cX6_deedOf 39 = .ok (.iconst 3, 1) := by decide +kernel
theorem dX6_deedOf_40 : decode cX6_deedOf 40 = .ok (.if_icmp .ne 20, 3) := by decide +kernel
theorem dX6_deedOf_43 : decode cX6_deedOf 43 = .ok (.aload_n 0, 1) := by decide +kernel
theorem dX6_deedOf_44 : decode cX6_deedOf 44 = .ok (.aload_n 0, 1) := by decide +kernel
theorem dX6_deedOf_45 : decode cX6_deedOf 45 = .ok (.getfield 20, 3) := by decide +kernel
theorem dX6_deedOf_48 : decode cX6_deedOf 48 = .ok (.iload_n 1, 1) := by decide +kernel
theorem dX6_deedOf_49 : decode cX6_deedOf 49 = .ok (.invokevirtual 89, 3) := by decide +kernel
theorem dX6_deedOf_52 : decode cX6_deedOf 52 = .ok (.invokevirtual 159, 3) := by decide +kernel
theorem dX6_deedOf_55 : decode cX6_deedOf 55 = .ok (.ifCond .eq 5, 3) := by decide +kernel
theorem dX6_deedOf_58 : decode cX6_deedOf 58 = .ok (.iconst 0, 1) := by decide +kernel
theorem dX6_deedOf_59 : decode cX6_deedOf 59 = .ok (.ireturn, 1) := by decide +kernel
theorem dX6_deedOf_60 : decode cX6_deedOf 60 = .ok (.iload_n 3, 1) := by decide +kernel
theorem dX6_deedOf_61 : decode cX6_deedOf 61 = .ok (.iconst 1, 1) := by decide +kernel
theorem dX6_deedOf_62 : decode cX6_deedOf 62 = .ok (.invokestatic 146, 3) := by decide +kernel
theorem dX6_deedOf_65 : decode cX6_deedOf 65 = .ok (.ifCond .eq 38, 3) := by decide +kernel
theorem dX6_deedOf_68 : decode cX6_deedOf 68 = .ok (.aload_n 0, 1) := by decide +kernel
theorem dX6_deedOf_69 : decode cX6_deedOf 69 = .ok (.iload_n 1, 1) := by decide +kernel
theorem dX6_deedOf_70 : decode cX6_deedOf 70 = .ok (.iload 4, 2) := by decide +kernel
theorem dX6_deedOf_72 : decode cX6_deedOf 72 = .ok (.aload_n 0, 1) := by decide +kernel
theorem dX6_deedOf_73 : decode cX6_deedOf 73 = .ok (.getfield 61, 3) := by decide +kernel
theorem dX6_deedOf_76 : decode cX6_deedOf 76 = .ok (.getfield 129, 3) := by decide +kernel
theorem dX6_deedOf_79 : decode cX6_deedOf 79 = .ok (.if_icmp .le 15, 3) := by decide +kernel
theorem dX6_deedOf_82 : decode cX6_deedOf 82 = .ok (.iload 4, 2) := by decide +kernel
theorem dX6_deedOf_84 : decode cX6_deedOf 84 = .ok (.aload_n 0, 1) := by decide +kernel
theorem dX6_deedOf_85 : decode cX6_deedOf 85 = .ok (.getfield 61, 3) := by decide +kernel
theorem dX6_deedOf_88 : decode cX6_deedOf 88 = .ok (.getfield 126, 3) := by decide +kernel
theorem dX6_deedOf_91 : decode cX6_deedOf 91 = .ok (.if_icmp .gt 7, 3) := by decide +kernel
theorem dX6_deedOf_94 : decode cX6_deedOf 94 = .ok (.iconst 1, 1) := by decide +kernel
theorem dX6_deedOf_95 : decode cX6_deedOf 95 = .ok (.goto 4, 3) := by decide +kernel
theorem dX6_deedOf_98 : decode cX6_deedOf 98 = .ok (.iconst 0, 1) := by decide +kernel
theorem dX6_deedOf_99 : decode cX6_deedOf 99 = .ok (.invokevirtual 162, 3) := by decide +kernel
theorem dX6_deedOf_102 : decode cX6_deedOf 102 = .ok (.ireturn, 1) := by decide +kernel
theorem dX6_deedOf_103 : decode cX6_deedOf 103 = .ok (.iload 4, 2) := by decide +kernel
theorem dX6_deedOf_105 : decode cX6_deedOf 105 = .ok (.aload_n 0, 1) := by decide +kernel
theorem dX6_deedOf_106 : decode cX6_deedOf 106 = .ok (.getfield 61, 3) := by decide +kernel
theorem dX6_deedOf_109 : decode cX6_deedOf 109 = .ok (.getfield 129, 3) := by decide +kernel
theorem dX6_deedOf_112 : decode cX6_deedOf 112 = .ok (.if_icmp .gt 32, 3) := by decide +kernel
theorem dX6_deedOf_115 : decode cX6_deedOf 115 = .ok (.aload_n 0, 1) := by decide +kernel
theorem dX6_deedOf_116 : decode cX6_deedOf 116 = .ok (.aload_n 0, 1) := by decide +kernel
theorem dX6_deedOf_117 : decode cX6_deedOf 117 = .ok (.getfield 41, 3) := by decide +kernel
theorem dX6_deedOf_120 : decode cX6_deedOf 120 = .ok (.iload_n 2, 1) := by decide +kernel
theorem dX6_deedOf_121 : decode cX6_deedOf 121 = .ok (.iload_n 3, 1) := by decide +kernel
theorem dX6_deedOf_122 : decode cX6_deedOf 122 = .ok (.bipush 6, 2) := by decide +kernel
theorem dX6_deedOf_124 : decode cX6_deedOf 124 = .ok (.if_icmp .eq 7, 3) := by decide +kernel
theorem dX6_deedOf_127 : decode cX6_deedOf 127 = .ok (.iconst 1, 1) := by decide +kernel
theorem dX6_deedOf_128 : decode cX6_deedOf 128 = .ok (.goto 4, 3) := by decide +kernel
theorem dX6_deedOf_131 : decode cX6_deedOf 131 = .ok (.iconst 0, 1) := by decide +kernel
theorem dX6_deedOf_132 : decode cX6_deedOf 132 = .ok (.invokevirtual 166, 3) := by decide +kernel
theorem dX6_deedOf_135 : decode cX6_deedOf 135 = .ok (.ifCond .eq 7, 3) := by decide +kernel
theorem dX6_deedOf_138 : decode cX6_deedOf 138 = .ok (.iconst 2, 1) := by decide +kernel
theorem dX6_deedOf_139 : decode cX6_deedOf 139 = .ok (.goto 4, 3) := by decide +kernel
theorem dX6_deedOf_142 : decode cX6_deedOf 142 = .ok (.iconst 0, 1) := by decide +kernel
theorem dX6_deedOf_143 : decode cX6_deedOf 143 = .ok (.ireturn, 1) := by decide +kernel
theorem dX6_deedOf_144 : decode cX6_deedOf 144 = .ok (.iload 4, 2) := by decide +kernel
theorem dX6_deedOf_146 : decode cX6_deedOf 146 = .ok (.aload_n 0, 1) := by decide +kernel
theorem dX6_deedOf_147 : decode cX6_deedOf 147 = .ok (.getfield 61, 3) := by decide +kernel
theorem dX6_deedOf_150 : decode cX6_deedOf 150 = .ok (.getfield 126, 3) := by decide +kernel
theorem dX6_deedOf_153 : decode cX6_deedOf 153 = .ok (.if_icmp .gt 15, 3) := by decide +kernel
theorem dX6_deedOf_156 : decode cX6_deedOf 156 = .ok (.aload_n 0, 1) := by decide +kernel
theorem dX6_deedOf_157 : decode cX6_deedOf 157 = .ok (.iload_n 2, 1) := by decide +kernel
theorem dX6_deedOf_158 : decode cX6_deedOf 158 = .ok (.invokevirtual 170, 3) := by decide +kernel
theorem dX6_deedOf_161 : decode cX6_deedOf 161 = .ok (.ifCond .eq 7, 3) := by decide +kernel
theorem dX6_deedOf_164 : decode cX6_deedOf 164 = .ok (.iconst 1, 1) := by decide +kernel
theorem dX6_deedOf_165 : decode cX6_deedOf 165 = .ok (.goto 4, 3) := by decide +kernel
theorem dX6_deedOf_168 : decode cX6_deedOf 168 = .ok (.iconst 0, 1) := by decide +kernel
theorem dX6_deedOf_169 : decode cX6_deedOf 169 = .ok (.ireturn, 1) := by decide +kernel
theorem dX6_refuses_0 : decode cX6_refuses 0 = .ok (.iload_n 1, 1) := by decide +kernel
theorem dX6_refuses_1 : decode cX6_refuses 1 = .ok (.ifCond .le 16, 3) := by decide +kernel
theorem dX6_refuses_4 : decode cX6_refuses 4 = .ok (.aload_n 0, 1) := by decide +kernel
theorem dX6_refuses_5 : decode cX6_refuses 5 = .ok (.getfield 45, 3) := by decide +kernel
theorem dX6_refuses_8 : decode cX6_refuses 8 = .ok (.iload_n 1, 1) := by decide +kernel
theorem dX6_refuses_9 : decode cX6_refuses 9 = .ok (.irem, 1) := by decide +kernel
theorem dX6_refuses_10 : decode cX6_refuses 10 = .ok (.ifCond .ne 7, 3) := by decide +kernel
theorem dX6_refuses_13 : decode cX6_refuses 13 = .ok (.iconst 1, 1) := by decide +kernel
theorem dX6_refuses_14 : decode cX6_refuses 14 = .ok (.goto 4, 3) := by decide +kernel
theorem dX6_refuses_17 : decode cX6_refuses 17 = .ok (.iconst 0, 1) := by decide +kernel
theorem dX6_refuses_18 : decode cX6_refuses 18 = .ok (.ireturn, 1) := by decide +kernel
theorem dX6_yieldingDeed_0 : decode cX6_yieldingDeed 0 = .ok (.aload_n 0, 1) := by decide +kernel
theorem dX6_yieldingDeed_1 : decode cX6_yieldingDeed 1 = .ok (.getfield 23, 3) := by decide +kernel
theorem dX6_yieldingDeed_4 : decode cX6_yieldingDeed 4 = .ok (.iload_n 1, 1) := by decide +kernel
theorem dX6_yieldingDeed_5 : decode cX6_yieldingDeed 5 = .ok (.invokevirtual 89, 3) := by decide +kernel
theorem dX6_yieldingDeed_8 : decode cX6_yieldingDeed 8 = .ok (.istore_n 3, 1) := by decide +kernel
theorem dX6_yieldingDeed_9 : decode cX6_yieldingDeed 9 = .ok (.iload_n 2, 1) := by decide +kernel
theorem dX6_yieldingDeed_10 : decode cX6_yieldingDeed 10 = .ok (.ifCond .eq 13, 3) := by decide +kernel
theorem dX6_yieldingDeed_13 : decode cX6_yieldingDeed 13 = .ok (.aload_n 0, 1) := by decide +kernel
theorem dX6_yieldingDeed_14 : decode cX6_yieldingDeed 14 = .ok (.iload_n 3, 1) := by decide +kernel
theorem dX6_yieldingDeed_15 : decode cX6_yieldingDeed 15 = .ok (.invokevirtual 170, 3) := by decide +kernel
theorem dX6_yieldingDeed_18 : decode cX6_yieldingDeed 18 = .ok (.ifCond .eq 5, 3) := by decide +kernel
theorem dX6_yieldingDeed_21 : decode cX6_yieldingDeed 21 = .ok (.iconst 1, 1) := by decide +kernel
theorem dX6_yieldingDeed_22 : decode cX6_yieldingDeed 22 = .ok (.ireturn, 1) := by decide +kernel
theorem dX6_yieldingDeed_23 : decode cX6_yieldingDeed 23 = .ok (.iload_n 2, 1) := by decide +kernel
theorem dX6_yieldingDeed_24 : decode cX6_yieldingDeed 24 = .ok (.ifCond .eq 34, 3) := by decide +kernel
theorem dX6_yieldingDeed_27 : decode cX6_yieldingDeed 27 = .ok (.aload_n 0, 1) := by decide +kernel
theorem dX6_yieldingDeed_28 : decode cX6_yieldingDeed 28 = .ok (.getfield 14, 3) := by decide +kernel
theorem dX6_yieldingDeed_31 : decode cX6_yieldingDeed 31 = .ok (.iload_n 1, 1) := by decide +kernel
theorem dX6_yieldingDeed_32 : decode cX6_yieldingDeed 32 = .ok (.invokevirtual 89, 3) := by decide +kernel
theorem dX6_yieldingDeed_35 : decode cX6_yieldingDeed 35 = .ok (.iconst 4, 1) := by decide +kernel
theorem dX6_yieldingDeed_36 : decode cX6_yieldingDeed 36 = .ok (.if_icmp .ne 20, 3) := by decide +kernel
theorem dX6_yieldingDeed_39 : decode cX6_yieldingDeed 39 = .ok (.aload_n 0, 1) := by decide +kernel
theorem dX6_yieldingDeed_40 : decode cX6_yieldingDeed 40 = .ok (.aload_n 0, 1) := by decide +kernel
theorem dX6_yieldingDeed_41 : decode cX6_yieldingDeed 41 = .ok (.getfield 41, 3) := by decide +kernel
theorem dX6_yieldingDeed_44 : decode cX6_yieldingDeed 44 = .ok (.iload_n 3, 1) := by decide +kernel
theorem dX6_yieldingDeed_45 : decode cX6_yieldingDeed 45 = .ok (.iconst 1, 1) := by decide +kernel
theorem dX6_yieldingDeed_46 : decode cX6_yieldingDeed 46 = .ok (.invokevirtual 166, 3) := by decide +kernel
theorem dX6_yieldingDeed_49 : decode cX6_yieldingDeed 49 = .ok (.ifCond .eq 7, 3) := by decide +kernel
theorem dX6_yieldingDeed_52 : decode cX6_yieldingDeed 52 = .ok (.iconst 2, 1) := by decide +kernel
theorem dX6_yieldingDeed_53 : decode cX6_yieldingDeed 53 = .ok (.goto 4, 3) := by decide +kernel
theorem dX6_yieldingDeed_56 : decode cX6_yieldingDeed 56 = .ok (.iconst 0, 1) := by decide +kernel
theorem dX6_yieldingDeed_57 : decode cX6_yieldingDeed 57 = .ok (.ireturn, 1) := by decide +kernel
theorem dX6_yieldingDeed_58 : decode cX6_yieldingDeed 58 = .ok (.aload_n 0, 1) := by decide +kernel
theorem dX6_yieldingDeed_59 : decode cX6_yieldingDeed 59 = .ok (.getfield 14, 3) := by decide +kernel
theorem dX6_yieldingDeed_62 : decode cX6_yieldingDeed 62 = .ok (.iload_n 1, 1) := by decide +kernel
theorem dX6_yieldingDeed_63 : decode cX6_yieldingDeed 63 = .ok (.invokevirtual 89, 3) := by decide +kernel
theorem dX6_yieldingDeed_66 : decode cX6_yieldingDeed 66 = .ok (.iconst 5, 1) := by decide +kernel
theorem dX6_yieldingDeed_67 : decode cX6_yieldingDeed 67 = .ok (.if_icmp .ne 30, 3) := by decide +kernel
theorem dX6_yieldingDeed_70 : decode cX6_yieldingDeed 70 = .ok (.iload_n 3, 1) := by decide +kernel
theorem dX6_yieldingDeed_71 : decode cX6_yieldingDeed 71 = .ok (.aload_n 0, 1) := by decide +kernel
theorem dX6_yieldingDeed_72 : decode cX6_yieldingDeed 72 = .ok (.getfield 26, 3) := by decide +kernel
theorem dX6_yieldingDeed_75 : decode cX6_yieldingDeed 75 = .ok (.iload_n 1, 1) := by decide +kernel
theorem dX6_yieldingDeed_76 : decode cX6_yieldingDeed 76 = .ok (.invokevirtual 89, 3) := by decide +kernel
theorem dX6_yieldingDeed_79 : decode cX6_yieldingDeed 79 = .ok (.invokestatic 150, 3) := by decide +kernel
theorem dX6_yieldingDeed_82 : decode cX6_yieldingDeed 82 = .ok (.aload_n 0, 1) := by decide +kernel
theorem dX6_yieldingDeed_83 : decode cX6_yieldingDeed 83 = .ok (.getfield 20, 3) := by decide +kernel
theorem dX6_yieldingDeed_86 : decode cX6_yieldingDeed 86 = .ok (.iload_n 1, 1) := by decide +kernel
theorem dX6_yieldingDeed_87 : decode cX6_yieldingDeed 87 = .ok (.invokevirtual 89, 3) := by decide +kernel
theorem dX6_yieldingDeed_90 : decode cX6_yieldingDeed 90 = .ok (.if_icmp .gt 7, 3) := by decide +kernel
theorem dX6_yieldingDeed_93 : decode cX6_yieldingDeed 93 = .ok (.iconst 1, 1) := by decide +kernel
theorem dX6_yieldingDeed_94 : decode cX6_yieldingDeed 94 = .ok (.goto 4, 3) := by decide +kernel
theorem dX6_yieldingDeed_97 : decode cX6_yieldingDeed 97 = .ok (.iconst 0, 1) := by decide +kernel
theorem dX6_yieldingDeed_98 : decode cX6_yieldingDeed 98 = .ok (.istore 4, 2) := by decide +kernel
theorem dX6_yieldingDeed_100 : decode cX6_yieldingDeed 100 = .ok (.iload 4, 2) := by decide +kernel
theorem dX6_yieldingDeed_102 : decode cX6_yieldingDeed 102 = .ok (.ifCond .eq 24, 3) := by decide +kernel
theorem dX6_yieldingDeed_105 : decode cX6_yieldingDeed 105 = .ok (.aload_n 0, 1) := by decide +kernel
theorem dX6_yieldingDeed_106 : decode cX6_yieldingDeed 106 = .ok (.aload_n 0, 1) := by decide +kernel
theorem dX6_yieldingDeed_107 : decode cX6_yieldingDeed 107 = .ok (.getfield 26, 3) := by decide +kernel
theorem dX6_yieldingDeed_110 : decode cX6_yieldingDeed 110 = .ok (.iload_n 1, 1) := by decide +kernel
theorem dX6_yieldingDeed_111 : decode cX6_yieldingDeed 111 = .ok (.invokevirtual 89, 3) := by decide +kernel
theorem dX6_yieldingDeed_114 : decode cX6_yieldingDeed 114 = .ok (.iload_n 3, 1) := by decide +kernel
theorem dX6_yieldingDeed_115 : decode cX6_yieldingDeed 115 = .ok (.iconst 0, 1) := by decide +kernel
theorem dX6_yieldingDeed_116 : decode cX6_yieldingDeed 116 = .ok (.invokevirtual 166, 3) := by decide +kernel
theorem dX6_yieldingDeed_119 : decode cX6_yieldingDeed 119 = .ok (.ifCond .eq 7, 3) := by decide +kernel
theorem dX6_yieldingDeed_122 : decode cX6_yieldingDeed 122 = .ok (.iconst 3, 1) := by decide +kernel
theorem dX6_yieldingDeed_123 : decode cX6_yieldingDeed 123 = .ok (.goto 4, 3) := by decide +kernel
theorem dX6_yieldingDeed_126 : decode cX6_yieldingDeed 126 = .ok (.iconst 0, 1) := by decide +kernel
theorem dX6_yieldingDeed_127 : decode cX6_yieldingDeed 127 = .ok (.ireturn, 1) := by decide +kernel
theorem dX6_yielded_0 : decode cX6_yielded 0 = .ok (.iload_n 1, 1) := by decide +kernel
theorem dX6_yielded_1 : decode cX6_yielded 1 = .ok (.aload_n 0, 1) := by decide +kernel
theorem dX6_yielded_2 : decode cX6_yielded 2 = .ok (.getfield 41, 3) := by decide +kernel
theorem dX6_yielded_5 : decode cX6_yielded 5 = .ok (.invokestatic 99, 3) := by decide +kernel
theorem dX6_yielded_8 : decode cX6_yielded 8 = .ok (.istore_n 2, 1) := by decide +kernel
theorem dX6_yielded_9 : decode cX6_yielded 9 = .ok (.iconst 0, 1) := by decide +kernel
theorem dX6_yielded_10 : decode cX6_yielded 10 = .ok (.istore_n 3, 1) := by decide +kernel
theorem dX6_yielded_11 : decode cX6_yielded 11 = .ok (.iload_n 3, 1) := by decide +kernel
theorem dX6_yielded_12 : decode cX6_yielded 12 = .ok (.iconst 4, 1) := by decide +kernel
theorem dX6_yielded_13 : decode cX6_yielded 13 = .ok (.if_icmp .ge 60, 3) := by decide +kernel
theorem dX6_yielded_16 : decode cX6_yielded 16 = .ok (.iload_n 1, 1) := by decide +kernel
theorem dX6_yielded_17 : decode cX6_yielded 17 = .ok (.iload_n 3, 1) := by decide +kernel
theorem dX6_yielded_18 : decode cX6_yielded 18 = .ok (.invokestatic 153, 3) := by decide +kernel
theorem dX6_yielded_21 : decode cX6_yielded 21 = .ok (.istore 4, 2) := by decide +kernel
theorem dX6_yielded_23 : decode cX6_yielded 23 = .ok (.iload 4, 2) := by decide +kernel
theorem dX6_yielded_25 : decode cX6_yielded 25 = .ok (.iconst (-1), 1) := by decide +kernel
theorem dX6_yielded_26 : decode cX6_yielded 26 = .ok (.if_icmp .eq 41, 3) := by decide +kernel
theorem dX6_yielded_29 : decode cX6_yielded 29 = .ok (.aload_n 0, 1) := by decide +kernel
theorem dX6_yielded_30 : decode cX6_yielded 30 = .ok (.iload 4, 2) := by decide +kernel
theorem dX6_yielded_32 : decode cX6_yielded 32 = .ok (.invokevirtual 85, 3) := by decide +kernel
theorem dX6_yielded_35 : decode cX6_yielded 35 = .ok (.ifCond .ne 32, 3) := by decide +kernel
theorem dX6_yielded_38 : decode cX6_yielded 38 = .ok (.iload 4, 2) := by decide +kernel
theorem dX6_yielded_40 : decode cX6_yielded 40 = .ok (.aload_n 0, 1) := by decide +kernel
theorem dX6_yielded_41 : decode cX6_yielded 41 = .ok (.getfield 41, 3) := by decide +kernel
theorem dX6_yielded_44 : decode cX6_yielded 44 = .ok (.invokestatic 99, 3) := by decide +kernel
theorem dX6_yielded_47 : decode cX6_yielded 47 = .ok (.iload_n 2, 1) := by decide +kernel
theorem dX6_yielded_48 : decode cX6_yielded 48 = .ok (.if_icmp .le 19, 3) := by decide +kernel
theorem dX6_yielded_51 : decode cX6_yielded 51 = .ok (.iload 4, 2) := by decide +kernel
theorem dX6_yielded_53 : decode cX6_yielded 53 = .ok (.aload_n 0, 1) := by decide +kernel
theorem dX6_yielded_54 : decode cX6_yielded 54 = .ok (.getfield 41, 3) := by decide +kernel
theorem dX6_yielded_57 : decode cX6_yielded 57 = .ok (.invokestatic 99, 3) := by decide +kernel
theorem dX6_yielded_60 : decode cX6_yielded 60 = .ok (.istore_n 2, 1) := by decide +kernel
theorem dX6_yielded_61 : decode cX6_yielded 61 = .ok (.aload_n 0, 1) := by decide +kernel
theorem dX6_yielded_62 : decode cX6_yielded 62 = .ok (.iload 4, 2) := by decide +kernel
theorem dX6_yielded_64 : decode cX6_yielded 64 = .ok (.putfield 65, 3) := by decide +kernel
theorem dX6_yielded_67 : decode cX6_yielded 67 = .ok (.iinc 3 1, 3) := by decide +kernel
theorem dX6_yielded_70 : decode cX6_yielded 70 = .ok (.goto (-59), 3) := by decide +kernel
theorem dX6_yielded_73 : decode cX6_yielded 73 = .ok (.aload_n 0, 1) := by decide +kernel
theorem dX6_yielded_74 : decode cX6_yielded 74 = .ok (.getfield 65, 3) := by decide +kernel
theorem dX6_yielded_77 : decode cX6_yielded 77 = .ok (.iload_n 1, 1) := by decide +kernel
theorem dX6_yielded_78 : decode cX6_yielded 78 = .ok (.if_icmp .eq 7, 3) := by decide +kernel
theorem dX6_yielded_81 : decode cX6_yielded 81 = .ok (.iconst 1, 1) := by decide +kernel
theorem dX6_yielded_82 : decode cX6_yielded 82 = .ok (.goto 4, 3) := by decide +kernel
theorem dX6_yielded_85 : decode cX6_yielded 85 = .ok (.iconst 0, 1) := by decide +kernel
theorem dX6_yielded_86 : decode cX6_yielded 86 = .ok (.ireturn, 1) := by decide +kernel
theorem dX6_cameTo_0 : decode cX6_cameTo 0 = .ok (.iload_n 2, 1) := by decide +kernel
theorem dX6_cameTo_1 : decode cX6_cameTo 1 = .ok (.iload_n 1, 1) := by decide +kernel
theorem dX6_cameTo_2 : decode cX6_cameTo 2 = .ok (.invokestatic 99, 3) := by decide +kernel
theorem dX6_cameTo_5 : decode cX6_cameTo 5 = .ok (.istore 4, 2) := by decide +kernel
theorem dX6_cameTo_7 : decode cX6_cameTo 7 = .ok (.iconst 0, 1) := by decide +kernel
theorem dX6_cameTo_8 : decode cX6_cameTo 8 = .ok (.istore 5, 2) := by decide +kernel
theorem dX6_cameTo_10 : decode cX6_cameTo 10 = .ok (.iload 5, 2) := by decide +kernel
theorem dX6_cameTo_12 : decode cX6_cameTo 12 = .ok (.iconst 4, 1) := by decide +kernel
theorem dX6_cameTo_13 : decode cX6_cameTo 13 = .ok (.if_icmp .ge 82, 3) := by decide +kernel
theorem dX6_cameTo_16 : decode cX6_cameTo 16 = .ok (.iload_n 2, 1) := by decide +kernel
theorem dX6_cameTo_17 : decode cX6_cameTo 17 = .ok (.iload 5, 2) := by decide +kernel
theorem dX6_cameTo_19 : decode cX6_cameTo 19 = .ok (.invokestatic 153, 3) := by decide +kernel
theorem dX6_cameTo_22 : decode cX6_cameTo 22 = .ok (.istore 6, 2) := by decide +kernel
theorem dX6_cameTo_24 : decode cX6_cameTo 24 = .ok (.iload 6, 2) := by decide +kernel
theorem dX6_cameTo_26 : decode cX6_cameTo 26 = .ok (.iconst (-1), 1) := by decide +kernel
theorem dX6_cameTo_27 : decode cX6_cameTo 27 = .ok (.if_icmp .eq 29, 3) := by decide +kernel
theorem dX6_cameTo_30 : decode cX6_cameTo 30 = .ok (.aload_n 0, 1) := by decide +kernel
theorem dX6_cameTo_31 : decode cX6_cameTo 31 = .ok (.iload 6, 2) := by decide +kernel
theorem dX6_cameTo_33 : decode cX6_cameTo 33 = .ok (.invokevirtual 85, 3) := by decide +kernel
theorem dX6_cameTo_36 : decode cX6_cameTo 36 = .ok (.ifCond .ne 20, 3) := by decide +kernel
theorem dX6_cameTo_39 : decode cX6_cameTo 39 = .ok (.iload_n 3, 1) := by decide +kernel
theorem dX6_cameTo_40 : decode cX6_cameTo 40 = .ok (.ifCond .ne 12, 3) := by decide +kernel
theorem dX6_cameTo_43 : decode cX6_cameTo 43 = .ok (.iload 6, 2) := by decide +kernel
theorem dX6_cameTo_45 : decode cX6_cameTo 45 = .ok (.aload_n 0, 1) := by decide +kernel
theorem dX6_cameTo_46 : decode cX6_cameTo 46 = .ok (.getfield 41, 3) := by decide +kernel
theorem dX6_cameTo_49 : decode cX6_cameTo 49 = .ok (.if_icmp .eq 7, 3) := by decide +kernel
theorem dX6_cameTo_52 : decode cX6_cameTo 52 = .ok (.iconst 1, 1) := by decide +kernel
theorem dX6_cameTo_53 : decode cX6_cameTo 53 = .ok (.goto 4, 3) := by decide +kernel
theorem dX6_cameTo_56 : decode cX6_cameTo 56 = .ok (.iconst 0, 1) := by decide +kernel
theorem dX6_cameTo_57 : decode cX6_cameTo 57 = .ok (.istore 7, 2) := by decide +kernel
theorem dX6_cameTo_59 : decode cX6_cameTo 59 = .ok (.iload 7, 2) := by decide +kernel
theorem dX6_cameTo_61 : decode cX6_cameTo 61 = .ok (.ifCond .eq 28, 3) := by decide +kernel
theorem dX6_cameTo_64 : decode cX6_cameTo 64 = .ok (.iload 6, 2) := by decide +kernel
theorem dX6_cameTo_66 : decode cX6_cameTo 66 = .ok (.iload_n 1, 1) := by decide +kernel
theorem dX6_cameTo_67 : decode cX6_cameTo 67 = .ok (.invokestatic 99, 3) := by decide +kernel
theorem dX6_cameTo_70 : decode cX6_cameTo 70 = .ok (.iload 4, 2) := by decide +kernel
theorem dX6_cameTo_72 : decode cX6_cameTo 72 = .ok (.if_icmp .ge 17, 3) := by decide +kernel
theorem dX6_cameTo_75 : decode cX6_cameTo 75 = .ok (.iload 6, 2) := by decide +kernel
theorem dX6_cameTo_77 : decode cX6_cameTo 77 = .ok (.iload_n 1, 1) := by decide +kernel
theorem dX6_cameTo_78 : decode cX6_cameTo 78 = .ok (.invokestatic 99, 3) := by decide +kernel
theorem dX6_cameTo_81 : decode cX6_cameTo 81 = .ok (.istore 4, 2) := by decide +kernel
theorem dX6_cameTo_83 : decode cX6_cameTo 83 = .ok (.aload_n 0, 1) := by decide +kernel
theorem dX6_cameTo_84 : decode cX6_cameTo 84 = .ok (.iload 6, 2) := by decide +kernel
theorem dX6_cameTo_86 : decode cX6_cameTo 86 = .ok (.putfield 65, 3) := by decide +kernel
theorem dX6_cameTo_89 : decode cX6_cameTo 89 = .ok (.iinc 5 1, 3) := by decide +kernel
theorem dX6_cameTo_92 : decode cX6_cameTo 92 = .ok (.goto (-82), 3) := by decide +kernel
theorem dX6_cameTo_95 : decode cX6_cameTo 95 = .ok (.aload_n 0, 1) := by decide +kernel
theorem dX6_cameTo_96 : decode cX6_cameTo 96 = .ok (.getfield 65, 3) := by decide +kernel
theorem dX6_cameTo_99 : decode cX6_cameTo 99 = .ok (.iload_n 2, 1) := by decide +kernel
theorem dX6_cameTo_100 : decode cX6_cameTo 100 = .ok (.if_icmp .eq 7, 3) := by decide +kernel
theorem dX6_cameTo_103 : decode cX6_cameTo 103 = .ok (.iconst 1, 1) := by decide +kernel
theorem dX6_cameTo_104 : decode cX6_cameTo 104 = .ok (.goto 4, 3) := by decide +kernel
theorem dX6_cameTo_107 : decode cX6_cameTo 107 = .ok (.iconst 0, 1) := by decide +kernel
theorem dX6_cameTo_108 : decode cX6_cameTo 108 = .ok (.ireturn, 1) := by decide +kernel
theorem dX6_places_0 : decode cX6_places 0 = .ok (.aload_n 0, 1) := by decide +kernel
theorem dX6_places_1 : decode cX6_places 1 = .ok (.getfield 41, 3) := by decide +kernel
theorem dX6_places_4 : decode cX6_places 4 = .ok (.i2l, 1) := by decide +kernel
theorem dX6_places_5 : decode cX6_places 5 = .ok (.lstore_n 1, 1) := by decide +kernel
theorem dX6_places_6 : decode cX6_places 6 = .ok (.iconst 0, 1) := by decide +kernel
theorem dX6_places_7 : decode cX6_places 7 = .ok (.istore_n 3, 1) := by decide +kernel
theorem dX6_places_8 : decode cX6_places 8 = .ok (.iload_n 3, 1) := by decide +kernel
theorem dX6_places_9 : decode cX6_places 9 = .ok (.aload_n 0, 1) := by decide +kernel
theorem dX6_places_10 : decode cX6_places 10 = .ok (.invokevirtual 71, 3) := by decide +kernel
theorem dX6_places_13 : decode cX6_places 13 = .ok (.if_icmp .ge 24, 3) := by decide +kernel
theorem dX6_places_16 : decode cX6_places 16 = .ok (.lload_n 1, 1) := by decide +kernel
theorem dX6_places_17 : decode cX6_places 17 = .ok (.bipush 6, 2) := by decide +kernel
theorem dX6_places_19 : decode cX6_places 19 = .ok (.lshl, 1) := by decide +kernel
theorem dX6_places_20 : decode cX6_places 20 = .ok (.aload_n 0, 1) := by decide +kernel
theorem dX6_places_21 : decode cX6_places 21 = .ok (.getfield 23, 3) := by decide +kernel
theorem dX6_places_24 : decode cX6_places 24 = .ok (.iload_n 3, 1) := by decide +kernel
theorem dX6_places_25 : decode cX6_places 25 = .ok (.invokevirtual 89, 3) := by decide +kernel
theorem dX6_places_28 : decode cX6_places 28 = .ok (.i2l, 1) := by decide +kernel
theorem dX6_places_29 : decode cX6_places 29 = .ok (.lor, 1) := by decide +kernel
theorem dX6_places_30 : decode cX6_places 30 = .ok (.lstore_n 1, 1) := by decide +kernel
theorem dX6_places_31 : decode cX6_places 31 = .ok (.iinc 3 1, 3) := by decide +kernel
theorem dX6_places_34 : decode cX6_places 34 = .ok (.goto (-26), 3) := by decide +kernel
theorem dX6_places_37 : decode cX6_places 37 = .ok (.lload_n 1, 1) := by decide +kernel
theorem dX6_places_38 : decode cX6_places 38 = .ok (.lreturn, 1) := by decide +kernel
theorem dX6_setPlaces_0 : decode cX6_setPlaces 0 = .ok (.lload_n 1, 1) := by decide +kernel
theorem dX6_setPlaces_1 : decode cX6_setPlaces 1 = .ok (.lstore_n 3, 1) := by decide +kernel
theorem dX6_setPlaces_2 : decode cX6_setPlaces 2 = .ok (.aload_n 0, 1) := by decide +kernel
theorem dX6_setPlaces_3 : decode cX6_setPlaces 3 = .ok (.invokevirtual 71, 3) := by decide +kernel
theorem dX6_setPlaces_6 : decode cX6_setPlaces 6 = .ok (.iconst 1, 1) := by decide +kernel
theorem dX6_setPlaces_7 : decode cX6_setPlaces 7 = .ok (.isub, 1) := by decide +kernel
theorem dX6_setPlaces_8 : decode cX6_setPlaces 8 = .ok (.istore 5, 2) := by decide +kernel
theorem dX6_setPlaces_10 : decode cX6_setPlaces 10 = .ok (.iload 5, 2) := by decide +kernel
theorem dX6_setPlaces_12 : decode cX6_setPlaces 12 = .ok (.ifCond .lt 29, 3) := by decide +kernel
theorem dX6_setPlaces_15 : decode cX6_setPlaces 15 = .ok (.aload_n 0, 1) := by decide +kernel
theorem dX6_setPlaces_16 : decode cX6_setPlaces 16 = .ok (.getfield 23, 3) := by decide +kernel
theorem dX6_setPlaces_19 : decode cX6_setPlaces 19 = .ok (.iload 5, 2) := by decide +kernel
theorem dX6_setPlaces_21 : decode cX6_setPlaces 21 = .ok (.lload_n 3, 1) := by decide +kernel
theorem dX6_setPlaces_22 : decode cX6_setPlaces 22 = .ok (.ldc2_w 173, 3) := by decide +kernel
theorem dX6_setPlaces_25 : decode cX6_setPlaces 25 = .ok (.land, 1) := by decide +kernel
theorem dX6_setPlaces_26 : decode cX6_setPlaces 26 = .ok (.l2i, 1) := by decide +kernel
theorem dX6_setPlaces_27 : decode cX6_setPlaces 27 = .ok (.invokevirtual 92, 3) := by decide +kernel
theorem dX6_setPlaces_30 : decode cX6_setPlaces 30 = .ok (.lload_n 3, 1) := by decide +kernel
theorem dX6_setPlaces_31 : decode cX6_setPlaces 31 = .ok (.bipush 6, 2) := by decide +kernel
theorem dX6_setPlaces_33 : decode cX6_setPlaces 33 = .ok (.lushr, 1) := by decide +kernel
theorem dX6_setPlaces_34 : decode cX6_setPlaces 34 = .ok (.lstore_n 3, 1) := by decide +kernel
theorem dX6_setPlaces_35 : decode cX6_setPlaces 35 = .ok (.iinc 5 (-1), 3) := by decide +kernel
theorem dX6_setPlaces_38 : decode cX6_setPlaces 38 = .ok (.goto (-28), 3) := by decide +kernel
theorem dX6_setPlaces_41 : decode cX6_setPlaces 41 = .ok (.aload_n 0, 1) := by decide +kernel
theorem dX6_setPlaces_42 : decode cX6_setPlaces 42 = .ok (.lload_n 3, 1) := by decide +kernel
theorem dX6_setPlaces_43 : decode cX6_setPlaces 43 = .ok (.ldc2_w 173, 3) := by decide +kernel
theorem dX6_setPlaces_46 : decode cX6_setPlaces 46 = .ok (.land, 1) := by decide +kernel
theorem dX6_setPlaces_47 : decode cX6_setPlaces 47 = .ok (.l2i, 1) := by decide +kernel
theorem dX6_setPlaces_48 : decode cX6_setPlaces 48 = .ok (.putfield 41, 3) := by decide +kernel
theorem dX6_setPlaces_51 : decode cX6_setPlaces 51 = .ok (.return_, 1) := by decide +kernel
theorem dX7_init_0 : decode cX7_init 0 = .ok (.aload_n 0, 1) := by decide +kernel
theorem dX7_init_1 : decode cX7_init 1 = .ok (.invokespecial 3, 3) := by decide +kernel
theorem dX7_init_4 : decode cX7_init 4 = .ok (.aload_n 0, 1) := by decide +kernel
theorem dX7_init_5 : decode cX7_init 5 = .ok (.new 9, 3) := by decide +kernel
theorem dX7_init_8 : decode cX7_init 8 = .ok (.dup, 1) := by decide +kernel
theorem dX7_init_9 : decode cX7_init 9 = .ok (.bipush 6, 2) := by decide +kernel
theorem dX7_init_11 : decode cX7_init 11 = .ok (.invokespecial 11, 3) := by decide +kernel
theorem dX7_init_14 : decode cX7_init 14 = .ok (.putfield 14, 3) := by decide +kernel
theorem dX7_init_17 : decode cX7_init 17 = .ok (.aload_n 0, 1) := by decide +kernel
theorem dX7_init_18 : decode cX7_init 18 = .ok (.new 9, 3) := by decide +kernel
theorem dX7_init_21 : decode cX7_init 21 = .ok (.dup, 1) := by decide +kernel
theorem dX7_init_22 : decode cX7_init 22 = .ok (.bipush 6, 2) := by decide +kernel
theorem dX7_init_24 : decode cX7_init 24 = .ok (.invokespecial 11, 3) := by decide +kernel
theorem dX7_init_27 : decode cX7_init 27 = .ok (.putfield 20, 3) := by decide +kernel
theorem dX7_init_30 : decode cX7_init 30 = .ok (.aload_n 0, 1) := by decide +kernel
theorem dX7_init_31 : decode cX7_init 31 = .ok (.new 9, 3) := by decide +kernel
theorem dX7_init_34 : decode cX7_init 34 = .ok (.dup, 1) := by decide +kernel
theorem dX7_init_35 : decode cX7_init 35 = .ok (.bipush 6, 2) := by decide +kernel
theorem dX7_init_37 : decode cX7_init 37 = .ok (.invokespecial 11, 3) := by decide +kernel
theorem dX7_init_40 : decode cX7_init 40 = .ok (.putfield 23, 3) := by decide +kernel
theorem dX7_init_43 : decode cX7_init 43 = .ok (.aload_n 0, 1) := by decide +kernel
theorem dX7_init_44 : decode cX7_init 44 = .ok (.bipush (-5), 2) := by decide +kernel
theorem dX7_init_46 : decode cX7_init 46 = .ok (.putfield 26, 3) := by decide +kernel
theorem dX7_init_49 : decode cX7_init 49 = .ok (.return_, 1) := by decide +kernel
theorem dX7_search_0 : decode cX7_search 0 = .ok (.aload_n 0, 1) := by decide +kernel
theorem dX7_search_1 : decode cX7_search 1 = .ok (.bipush (-5), 2) := by decide +kernel
theorem dX7_search_3 : decode cX7_search 3 = .ok (.putfield 26, 3) := by decide +kernel
theorem dX7_search_6 : decode cX7_search 6 = .ok (.aload_n 0, 1) := by decide +kernel
theorem dX7_search_7 : decode cX7_search 7 = .ok (.getfield 14, 3) := by decide +kernel
theorem dX7_search_10 : decode cX7_search 10 = .ok (.invokevirtual 30, 3) := by decide +kernel
theorem dX7_search_13 : decode cX7_search 13 = .ok (.aload_n 0, 1) := by decide +kernel
theorem dX7_search_14 : decode cX7_search 14 = .ok (.getfield 20, 3) := by decide +kernel
theorem dX7_search_17 : decode cX7_search 17 = .ok (.invokevirtual 30, 3) := by decide +kernel
theorem dX7_search_20 : decode cX7_search 20 = .ok (.iconst 0, 1) := by decide +kernel
theorem dX7_search_21 : decode cX7_search 21 = .ok (.istore_n 2, 1) := by decide +kernel
theorem dX7_search_22 : decode cX7_search 22 = .ok (.iload_n 2, 1) := by decide +kernel
theorem dX7_search_23 : decode cX7_search 23 = .ok (.bipush 36, 2) := by decide +kernel
theorem dX7_search_25 : decode cX7_search 25 = .ok (.if_icmp .ge 25, 3) := by decide +kernel
theorem dX7_search_28 : decode cX7_search 28 = .ok (.aload_n 1, 1) := by decide +kernel
theorem dX7_search_29 : decode cX7_search 29 = .ok (.iload_n 2, 1) := by decide +kernel
theorem dX7_search_30 : decode cX7_search 30 = .ok (.invokevirtual 33, 3) := by decide +kernel
theorem dX7_search_33 : decode cX7_search 33 = .ok (.ifCond .eq 11, 3) := by decide +kernel
theorem dX7_search_36 : decode cX7_search 36 = .ok (.aload_n 0, 1) := by decide +kernel
theorem dX7_search_37 : decode cX7_search 37 = .ok (.getfield 14, 3) := by decide +kernel
theorem dX7_search_40 : decode cX7_search 40 = .ok (.iload_n 2, 1) := by decide +kernel
theorem dX7_search_41 : decode cX7_search 41 = .ok (.invokevirtual 39, 3) := by decide +kernel
theorem dX7_search_44 : decode cX7_search 44 = .ok (.iinc 2 1, 3) := by decide +kernel
theorem dX7_search_47 : decode cX7_search 47 = .ok (.goto (-25), 3) := by decide +kernel
theorem dX7_search_50 : decode cX7_search 50 = .ok (.aload_n 0, 1) := by decide +kernel
theorem dX7_search_51 : decode cX7_search 51 = .ok (.aload_n 1, 1) := by decide +kernel
theorem dX7_search_52 : decode cX7_search 52 = .ok (.iconst 0, 1) := by decide +kernel
theorem dX7_search_53 : decode cX7_search 53 = .ok (.iconst 0, 1) := by decide +kernel
theorem dX7_search_54 : decode cX7_search 54 = .ok (.iconst 0, 1) := by decide +kernel
theorem dX7_search_55 : decode cX7_search 55 = .ok (.invokestatic 42, 3) := by decide +kernel
theorem dX7_search_58 : decode cX7_search 58 = .ok (.return_, 1) := by decide +kernel
theorem dX7_seatFrom_0 : decode cX7_seatFrom 0 = .ok (.iload_n 2, 1) := by decide +kernel
theorem dX7_seatFrom_1 : decode cX7_seatFrom 1 = .ok (.aload_n 1, 1) := by decide +kernel
theorem dX7_seatFrom_2 : decode cX7_seatFrom 2 = .ok (.invokevirtual 46, 3) := by decide +kernel
theorem dX7_seatFrom_5 : decode cX7_seatFrom 5 = .ok (.if_icmp .ge 9, 3) := by decide +kernel
theorem dX7_seatFrom_8 : decode cX7_seatFrom 8 = .ok (.iload_n 2, 1) := by decide +kernel
theorem dX7_seatFrom_9 : decode cX7_seatFrom 9 = .ok (.bipush 6, 2) := by decide +kernel
theorem dX7_seatFrom_11 : decode cX7_seatFrom 11 = .ok (.if_icmp .lt 10, 3) := by decide +kernel
theorem dX7_seatFrom_14 : decode cX7_seatFrom 14 = .ok (.aload_n 0, 1) := by decide +kernel
theorem dX7_seatFrom_15 : decode cX7_seatFrom 15 = .ok (.iload 4, 2) := by decide +kernel
theorem dX7_seatFrom_17 : decode cX7_seatFrom 17 = .ok (.invokevirtual 50, 3) := by decide +kernel
theorem dX7_seatFrom_20 : decode cX7_seatFrom 20 = .ok (.return_, 1) := by decide +kernel
theorem dX7_seatFrom_21 : decode cX7_seatFrom 21 = .ok (.iconst 0, 1) := by decide +kernel
theorem dX7_seatFrom_22 : decode cX7_seatFrom 22 = .ok (.istore 5, 2) := by decide +kernel
theorem dX7_seatFrom_24 : decode cX7_seatFrom 24 = .ok (.iload 5, 2) := by decide +kernel
theorem dX7_seatFrom_26 : decode cX7_seatFrom 26 = .ok (.aload_n 0, 1) := by decide +kernel
theorem dX7_seatFrom_27 : decode cX7_seatFrom 27 = .ok (.getfield 14, 3) := by decide +kernel
theorem dX7_seatFrom_30 : decode cX7_seatFrom 30 = .ok (.getfield 53, 3) := by decide +kernel
theorem dX7_seatFrom_33 : decode cX7_seatFrom 33 = .ok (.if_icmp .ge 90, 3) := by decide +kernel
theorem dX7_seatFrom_36 : decode cX7_seatFrom 36 = .ok (.aload_n 0, 1) := by decide +kernel
theorem dX7_seatFrom_37 : decode cX7_seatFrom 37 = .ok (.getfield 14, 3) := by decide +kernel
theorem dX7_seatFrom_40 : decode cX7_seatFrom 40 = .ok (.iload 5, 2) := by decide +kernel
theorem dX7_seatFrom_42 : decode cX7_seatFrom 42 = .ok (.invokevirtual 55, 3) := by decide +kernel
theorem dX7_seatFrom_45 : decode cX7_seatFrom 45 = .ok (.istore 6, 2) := by decide +kernel
theorem dX7_seatFrom_47 : decode cX7_seatFrom 47 = .ok (.iload_n 3, 1) := by decide +kernel
theorem dX7_seatFrom_48 : decode cX7_seatFrom 48 = .ok (.iload 5, 2) := by decide +kernel
theorem dX7_seatFrom_50 : decode cX7_seatFrom 50 = .ok (.iushr, 1) := by decide +kernel
theorem dX7_seatFrom_51 : decode cX7_seatFrom 51 = .ok (.iconst 1, 1) := by decide +kernel
theorem dX7_seatFrom_52 : decode cX7_seatFrom 52 = .ok (.iand, 1) := by decide +kernel
theorem dX7_seatFrom_53 : decode cX7_seatFrom 53 = .ok (.ifCond .ne 64, 3) := by decide +kernel
theorem dX7_seatFrom_56 : decode cX7_seatFrom 56 = .ok (.aload_n 0, 1) := by decide +kernel
theorem dX7_seatFrom_57 : decode cX7_seatFrom 57 = .ok (.aload_n 1, 1) := by decide +kernel
theorem dX7_seatFrom_58 : decode cX7_seatFrom 58 = .ok (.iload_n 2, 1) := by decide +kernel
theorem dX7_seatFrom_59 : decode cX7_seatFrom 59 = .ok (.iload 6, 2) := by decide +kernel
theorem dX7_seatFrom_61 : decode cX7_seatFrom 61 = .ok (.invokevirtual 59, 3) := by decide +kernel
theorem dX7_seatFrom_64 : decode cX7_seatFrom 64 = .ok (.ifCond .eq 6, 3) := by decide +kernel
theorem dX7_seatFrom_67 : decode cX7_seatFrom 67 = .ok (.goto 50, 3) := by decide +kernel
theorem dX7_seatFrom_70 : decode cX7_seatFrom 70 = .ok (.aload_n 0, 1) := by decide +kernel
theorem dX7_seatFrom_71 : decode cX7_seatFrom 71 = .ok (.getfield 20, 3) := by decide +kernel
theorem dX7_seatFrom_74 : decode cX7_seatFrom 74 = .ok (.iload_n 2, 1) := by decide +kernel
theorem dX7_seatFrom_75 : decode cX7_seatFrom 75 = .ok (.putfield 53, 3) := by decide +kernel
theorem dX7_seatFrom_78 : decode cX7_seatFrom 78 = .ok (.aload_n 0, 1) := by decide +kernel
theorem dX7_seatFrom_79 : decode cX7_seatFrom 79 = .ok (.getfield 20, 3) := by decide +kernel
theorem dX7_seatFrom_82 : decode cX7_seatFrom 82 = .ok (.iload 6, 2) := by decide +kernel
theorem dX7_seatFrom_84 : decode cX7_seatFrom 84 = .ok (.invokevirtual 39, 3) := by decide +kernel
theorem dX7_seatFrom_87 : decode cX7_seatFrom 87 = .ok (.aload_n 0, 1) := by decide +kernel
theorem dX7_seatFrom_88 : decode cX7_seatFrom 88 = .ok (.aload_n 1, 1) := by decide +kernel
theorem dX7_seatFrom_89 : decode cX7_seatFrom 89 = .ok (.iload_n 2, 1) := by decide +kernel
theorem dX7_seatFrom_90 : decode cX7_seatFrom 90 = .ok (.iconst 1, 1) := by decide +kernel
theorem dX7_seatFrom_91 : decode cX7_seatFrom 91 = .ok (.iadd, 1) := by decide +kernel
theorem dX7_seatFrom_92 : decode cX7_seatFrom 92 = .ok (.iload_n 3, 1) := by decide +kernel
theorem dX7_seatFrom_93 : decode cX7_seatFrom 93 = .ok (.iconst 1, 1) := by decide +kernel
theorem dX7_seatFrom_94 : decode cX7_seatFrom 94 = .ok (.iload 5, 2) := by decide +kernel
theorem dX7_seatFrom_96 : decode cX7_seatFrom 96 = .ok (.ishl, 1) := by decide +kernel
theorem dX7_seatFrom_97 : decode cX7_seatFrom 97 = .ok (.ior, 1) := by decide +kernel
theorem dX7_seatFrom_98 : decode cX7_seatFrom 98 = .ok (.iload 4, 2) := by decide +kernel
theorem dX7_seatFrom_100 : decode cX7_seatFrom 100 = .ok (.aload_n 1, 1) := by decide +kernel
theorem dX7_seatFrom_101 : decode cX7_seatFrom 101 = .ok (.getfield 63, 3) := by decide +kernel
theorem dX7_seatFrom_104 : decode cX7_seatFrom 104 = .ok (.iload_n 2, 1) := by decide +kernel
theorem dX7_seatFrom_105 : decode cX7_seatFrom 105 = .ok (.invokevirtual 55, 3) := by decide +kernel
theorem dX7_seatFrom_108 : decode cX7_seatFrom 108 = .ok (.iload 6, 2) := by decide +kernel
theorem dX7_seatFrom_110 : decode cX7_seatFrom 110 = .ok (.invokestatic 66, 3) := by decide +kernel
theorem dX7_seatFrom_113 : decode cX7_seatFrom 113 = .ok (.iadd, 1) := by decide +kernel
theorem dX7_seatFrom_114 : decode cX7_seatFrom 114 = .ok (.invokestatic 42, 3) := by decide +kernel
theorem dX7_seatFrom_117 : decode cX7_seatFrom 117 = .ok (.iinc 5 1, 3) := by decide +kernel
theorem dX7_seatFrom_120 : decode cX7_seatFrom 120 = .ok (.goto (-96), 3) := by decide +kernel
theorem dX7_seatFrom_123 : decode cX7_seatFrom 123 = .ok (.return_, 1) := by decide +kernel
theorem dX7_isByEnemy_0 : decode cX7_isByEnemy 0 = .ok (.iconst 0, 1) := by decide +kernel
theorem dX7_isByEnemy_1 : decode cX7_isByEnemy 1 = .ok (.istore 4, 2) := by decide +kernel
theorem dX7_isByEnemy_3 : decode cX7_isByEnemy 3 = .ok (.iload 4, 2) := by decide +kernel
theorem dX7_isByEnemy_5 : decode cX7_isByEnemy 5 = .ok (.iload_n 2, 1) := by decide +kernel
theorem dX7_isByEnemy_6 : decode cX7_isByEnemy 6 = .ok (.if_icmp .ge 38, 3) := by decide +kernel
theorem dX7_isByEnemy_9 : decode cX7_isByEnemy 9 = .ok (.aload_n 1, 1) := by decide +kernel
theorem dX7_isByEnemy_10 : decode cX7_isByEnemy 10 = .ok (.iload_n 2, 1) := by decide +kernel
theorem dX7_isByEnemy_11 : decode cX7_isByEnemy 11 = .ok (.iload 4, 2) := by decide +kernel
theorem dX7_isByEnemy_13 : decode cX7_isByEnemy 13 = .ok (.invokevirtual 70, 3) := by decide +kernel
theorem dX7_isByEnemy_16 : decode cX7_isByEnemy 16 = .ok (.ifCond .eq 22, 3) := by decide +kernel
theorem dX7_isByEnemy_19 : decode cX7_isByEnemy 19 = .ok (.aload_n 0, 1) := by decide +kernel
theorem dX7_isByEnemy_20 : decode cX7_isByEnemy 20 = .ok (.getfield 20, 3) := by decide +kernel
theorem dX7_isByEnemy_23 : decode cX7_isByEnemy 23 = .ok (.iload 4, 2) := by decide +kernel
theorem dX7_isByEnemy_25 : decode cX7_isByEnemy 25 = .ok (.invokevirtual 55, 3) := by decide +kernel
theorem dX7_isByEnemy_28 : decode cX7_isByEnemy 28 = .ok (.iload_n 3, 1) := by decide +kernel
theorem dX7_isByEnemy_29 : decode cX7_isByEnemy 29 = .ok (.invokestatic 66, 3) := by decide +kernel
theorem dX7_isByEnemy_32 : decode cX7_isByEnemy 32 = .ok (.iconst 1, 1) := by decide +kernel
theorem dX7_isByEnemy_33 : decode cX7_isByEnemy 33 = .ok (.if_icmp .ne 5, 3) := by decide +kernel
theorem dX7_isByEnemy_36 : decode cX7_isByEnemy 36 = .ok (.iconst 1, 1) := by decide +kernel
theorem dX7_isByEnemy_37 : decode cX7_isByEnemy 37 = .ok (.ireturn, 1) := by decide +kernel
theorem dX7_isByEnemy_38 : decode cX7_isByEnemy 38 = .ok (.iinc 4 1, 3) := by decide +kernel
theorem dX7_isByEnemy_41 : decode cX7_isByEnemy 41 = .ok (.goto (-38), 3) := by decide +kernel
theorem dX7_isByEnemy_44 : decode cX7_isByEnemy 44 = .ok (.iconst 0, 1) := by decide +kernel
theorem dX7_isByEnemy_45 : decode cX7_isByEnemy 45 = .ok (.ireturn, 1) := by decide +kernel
theorem dX7_keep_0 : decode cX7_keep 0 = .ok (.aload_n 0, 1) := by decide +kernel
theorem dX7_keep_1 : decode cX7_keep 1 = .ok (.getfield 26, 3) := by decide +kernel
theorem dX7_keep_4 : decode cX7_keep 4 = .ok (.bipush (-5), 2) := by decide +kernel
theorem dX7_keep_6 : decode cX7_keep 6 = .ok (.if_icmp .eq 11, 3) := by decide +kernel
theorem dX7_keep_9 : decode cX7_keep 9 = .ok (.iload_n 1, 1) := by decide +kernel
theorem dX7_keep_10 : decode cX7_keep 10 = .ok (.aload_n 0, 1) := by decide +kernel
theorem dX7_keep_11 : decode cX7_keep 11 = .ok (.getfield 26, 3) := by decide +kernel
theorem dX7_keep_14 : decode cX7_keep 14 = .ok (.if_icmp .ge 19, 3) := by decide +kernel
theorem dX7_keep_17 : decode cX7_keep 17 = .ok (.aload_n 0, 1) := by decide +kernel
theorem dX7_keep_18 : decode cX7_keep 18 = .ok (.iload_n 1, 1) := by decide +kernel
theorem dX7_keep_19 : decode cX7_keep 19 = .ok (.putfield 26, 3) := by decide +kernel
theorem dX7_keep_22 : decode cX7_keep 22 = .ok (.aload_n 0, 1) := by decide +kernel
theorem dX7_keep_23 : decode cX7_keep 23 = .ok (.getfield 23, 3) := by decide +kernel
theorem dX7_keep_26 : decode cX7_keep 26 = .ok (.aload_n 0, 1) := by decide +kernel
theorem dX7_keep_27 : decode cX7_keep 27 = .ok (.getfield 20, 3) := by decide +kernel
theorem dX7_keep_30 : decode cX7_keep 30 = .ok (.invokevirtual 74, 3) := by decide +kernel
theorem dX7_keep_33 : decode cX7_keep 33 = .ok (.return_, 1) := by decide +kernel
theorem dX8_init_0 : decode cX8_init 0 = .ok (.aload_n 0, 1) := by decide +kernel
theorem dX8_init_1 : decode cX8_init 1 = .ok (.invokespecial 3, 3) := by decide +kernel
theorem dX8_init_4 : decode cX8_init 4 = .ok (.aload_n 0, 1) := by decide +kernel
theorem dX8_init_5 : decode cX8_init 5 = .ok (.bipush 60, 2) := by decide +kernel
theorem dX8_init_7 : decode cX8_init 7 = .ok (.newarray .long, 2) := by decide +kernel
theorem dX8_init_9 : decode cX8_init 9 = .ok (.putfield 9, 3) := by decide +kernel
theorem dX8_init_12 : decode cX8_init 12 = .ok (.aload_n 0, 1) := by decide +kernel
theorem dX8_init_13 : decode cX8_init 13 = .ok (.iconst (-1), 1) := by decide +kernel
theorem dX8_init_14 : decode cX8_init 14 = .ok (.putfield 15, 3) := by decide +kernel
theorem dX8_init_17 : decode cX8_init 17 = .ok (.aload_n 0, 1) := by decide +kernel
theorem dX8_init_18 : decode cX8_init 18 = .ok (.iconst 0, 1) := by decide +kernel
theorem dX8_init_19 : decode cX8_init 19 = .ok (.putfield 19, 3) := by decide +kernel
theorem dX8_init_22 : decode cX8_init 22 = .ok (.return_, 1) := by decide +kernel
theorem dX8_isRow_0 : decode cX8_isRow 0 = .ok (.aload_n 0, 1) := by decide +kernel
theorem dX8_isRow_1 : decode cX8_isRow 1 = .ok (.getfield 15, 3) := by decide +kernel
theorem dX8_isRow_4 : decode cX8_isRow 4 = .ok (.iconst (-1), 1) := by decide +kernel
theorem dX8_isRow_5 : decode cX8_isRow 5 = .ok (.if_icmp .eq 7, 3) := by decide +kernel
theorem dX8_isRow_8 : decode cX8_isRow 8 = .ok (.iconst 1, 1) := by decide +kernel
theorem dX8_isRow_9 : decode cX8_isRow 9 = .ok (.goto 4, 3) := by decide +kernel
theorem dX8_isRow_12 : decode cX8_isRow 12 = .ok (.iconst 0, 1) := by decide +kernel
theorem dX8_isRow_13 : decode cX8_isRow 13 = .ok (.ireturn, 1) := by decide +kernel
theorem dX8_empty_0 : decode cX8_empty 0 = .ok (.aload_n 0, 1) := by decide +kernel
theorem dX8_empty_1 : decode cX8_empty 1 = .ok (.iconst (-1), 1) := by decide +kernel
theorem dX8_empty_2 : decode cX8_empty 2 = .ok (.putfield 15, 3) := by decide +kernel
theorem dX8_empty_5 : decode cX8_empty 5 = .ok (.aload_n 0, 1) := by decide +kernel
theorem dX8_empty_6 : decode cX8_empty 6 = .ok (.iconst 0, 1) := by decide +kernel
theorem dX8_empty_7 : decode cX8_empty 7 = .ok (.putfield 19, 3) := by decide +kernel
theorem dX8_empty_10 : decode cX8_empty 10 = .ok (.return_, 1) := by decide +kernel
theorem dX8_become_0 : decode cX8_become 0 = .ok (.aload_n 0, 1) := by decide +kernel
theorem dX8_become_1 : decode cX8_become 1 = .ok (.iload_n 1, 1) := by decide +kernel
theorem dX8_become_2 : decode cX8_become 2 = .ok (.putfield 15, 3) := by decide +kernel
theorem dX8_become_5 : decode cX8_become 5 = .ok (.aload_n 0, 1) := by decide +kernel
theorem dX8_become_6 : decode cX8_become 6 = .ok (.iconst 0, 1) := by decide +kernel
theorem dX8_become_7 : decode cX8_become 7 = .ok (.iload_n 2, 1) := by decide +kernel
theorem dX8_become_8 : decode cX8_become 8 = .ok (.bipush 60, 2) := by decide +kernel
theorem dX8_become_10 : decode cX8_become 10 = .ok (.invokestatic 22, 3) := by decide +kernel
theorem dX8_become_13 : decode cX8_become 13 = .ok (.invokestatic 28, 3) := by decide +kernel
theorem dX8_become_16 : decode cX8_become 16 = .ok (.putfield 19, 3) := by decide +kernel
theorem dX8_become_19 : decode cX8_become 19 = .ok (.iconst 0, 1) := by decide +kernel
theorem dX8_become_20 : decode cX8_become 20 = .ok (.istore_n 3, 1) := by decide +kernel
theorem dX8_become_21 : decode cX8_become 21 = .ok (.iload_n 3, 1) := by decide +kernel
theorem dX8_become_22 : decode cX8_become 22 = .ok (.aload_n 0, 1) := by decide +kernel
theorem dX8_become_23 : decode cX8_become 23 = .ok (.getfield 9, 3) := by decide +kernel
theorem dX8_become_26 : decode cX8_become 26 = .ok (.arraylength, 1) := by decide +kernel
theorem dX8_become_27 : decode cX8_become 27 = .ok (.if_icmp .ge 16, 3) := by decide +kernel
theorem dX8_become_30 : decode cX8_become 30 = .ok (.aload_n 0, 1) := by decide +kernel
theorem dX8_become_31 : decode cX8_become 31 = .ok (.getfield 9, 3) := by decide +kernel
theorem dX8_become_34 : decode cX8_become 34 = .ok (.iload_n 3, 1) := by decide +kernel
theorem dX8_become_35 : decode cX8_become 35 = .ok (.lconst 0, 1) := by decide +kernel
theorem dX8_become_36 : decode cX8_become 36 = .ok (.lastore, 1) := by decide +kernel
theorem dX8_become_37 : decode cX8_become 37 = .ok (.iinc 3 1, 3) := by decide +kernel
theorem dX8_become_40 : decode cX8_become 40 = .ok (.goto (-19), 3) := by decide +kernel
theorem dX8_become_43 : decode cX8_become 43 = .ok (.return_, 1) := by decide +kernel
theorem dX8_hasPlace_0 : decode cX8_hasPlace 0 = .ok (.iload_n 1, 1) := by decide +kernel
theorem dX8_hasPlace_1 : decode cX8_hasPlace 1 = .ok (.ifCond .lt 24, 3) := by decide +kernel
theorem dX8_hasPlace_4 : decode cX8_hasPlace 4 = .ok (.iload_n 1, 1) := by decide +kernel
theorem dX8_hasPlace_5 : decode cX8_hasPlace 5 = .ok (.aload_n 0, 1) := by decide +kernel
theorem dX8_hasPlace_6 : decode cX8_hasPlace 6 = .ok (.getfield 19, 3) := by decide +kernel
theorem dX8_hasPlace_9 : decode cX8_hasPlace 9 = .ok (.if_icmp .ge 16, 3) := by decide +kernel
theorem dX8_hasPlace_12 : decode cX8_hasPlace 12 = .ok (.iload_n 1, 1) := by decide +kernel
theorem dX8_hasPlace_13 : decode cX8_hasPlace 13 = .ok (.aload_n 0, 1) := by decide +kernel
theorem dX8_hasPlace_14 : decode cX8_hasPlace 14 = .ok (.getfield 9, 3) := by decide +kernel
theorem dX8_hasPlace_17 : decode cX8_hasPlace 17 = .ok (.arraylength, 1) := by decide +kernel
theorem dX8_hasPlace_18 : decode cX8_hasPlace 18 = .ok (.if_icmp .ge 7, 3) := by decide +kernel
theorem dX8_hasPlace_21 : decode cX8_hasPlace 21 = .ok (.iconst 1, 1) := by decide +kernel
theorem dX8_hasPlace_22 : decode cX8_hasPlace 22 = .ok (.goto 4, 3) := by decide +kernel
theorem dX8_hasPlace_25 : decode cX8_hasPlace 25 = .ok (.iconst 0, 1) := by decide +kernel
theorem dX8_hasPlace_26 : decode cX8_hasPlace 26 = .ok (.ireturn, 1) := by decide +kernel
theorem dX8_hasPart_0 : decode cX8_hasPart 0 = .ok (.iload_n 1, 1) := by decide +kernel
theorem dX8_hasPart_1 : decode cX8_hasPart 1 = .ok (.ifCond .lt 29, 3) := by decide +kernel
theorem dX8_hasPart_4 : decode cX8_hasPart 4 = .ok (.iload_n 2, 1) := by decide +kernel
theorem dX8_hasPart_5 : decode cX8_hasPart 5 = .ok (.ifCond .lt 25, 3) := by decide +kernel
theorem dX8_hasPart_8 : decode cX8_hasPart 8 = .ok (.iload_n 1, 1) := by decide +kernel
theorem dX8_hasPart_9 : decode cX8_hasPart 9 = .ok (.aload_n 0, 1) := by decide +kernel
theorem dX8_hasPart_10 : decode cX8_hasPart 10 = .ok (.getfield 19, 3) := by decide +kernel
theorem dX8_hasPart_13 : decode cX8_hasPart 13 = .ok (.if_icmp .gt 17, 3) := by decide +kernel
theorem dX8_hasPart_16 : decode cX8_hasPart 16 = .ok (.iload_n 2, 1) := by decide +kernel
theorem dX8_hasPart_17 : decode cX8_hasPart 17 = .ok (.aload_n 0, 1) := by decide +kernel
theorem dX8_hasPart_18 : decode cX8_hasPart 18 = .ok (.getfield 19, 3) := by decide +kernel
theorem dX8_hasPart_21 : decode cX8_hasPart 21 = .ok (.iload_n 1, 1) := by decide +kernel
theorem dX8_hasPart_22 : decode cX8_hasPart 22 = .ok (.isub, 1) := by decide +kernel
theorem dX8_hasPart_23 : decode cX8_hasPart 23 = .ok (.if_icmp .gt 7, 3) := by decide +kernel
theorem dX8_hasPart_26 : decode cX8_hasPart 26 = .ok (.iconst 1, 1) := by decide +kernel
theorem dX8_hasPart_27 : decode cX8_hasPart 27 = .ok (.goto 4, 3) := by decide +kernel
theorem dX8_hasPart_30 : decode cX8_hasPart 30 = .ok (.iconst 0, 1) := by decide +kernel
theorem dX8_hasPart_31 : decode cX8_hasPart 31 = .ok (.ireturn, 1) := by decide +kernel
theorem dX8_get_0 : decode cX8_get 0 = .ok (.aload_n 0, 1) := by decide +kernel
theorem dX8_get_1 : decode cX8_get 1 = .ok (.iload_n 1, 1) := by decide +kernel
theorem dX8_get_2 : decode cX8_get 2 = .ok (.invokevirtual 31, 3) := by decide +kernel
theorem dX8_get_5 : decode cX8_get 5 = .ok (.ifCond .eq 12, 3) := by decide +kernel
theorem dX8_get_8 : decode cX8_get 8 = .ok (.aload_n 0, 1) := by decide +kernel
theorem dX8_get_9 : decode cX8_get 9 = .ok (.getfield 9, 3) := by decide +kernel
theorem dX8_get_12 : decode cX8_get 12 = .ok (.iload_n 1, 1) := by decide +kernel
theorem dX8_get_13 : decode cX8_get 13 = .ok (.laload, 1) := by decide +kernel
theorem dX8_get_14 : decode cX8_get 14 = .ok (.goto 4, 3) := by decide +kernel
theorem dX8_get_17 : decode cX8_get 17 = .ok (.lconst 0, 1) := by decide +kernel
theorem dX8_get_18 : decode cX8_get 18 = .ok (.lreturn, 1) := by decide +kernel
theorem dX8_put_0 : decode cX8_put 0 = .ok (.aload_n 0, 1) := by decide +kernel
theorem dX8_put_1 : decode cX8_put 1 = .ok (.iload_n 1, 1) := by decide +kernel
theorem dX8_put_2 : decode cX8_put 2 = .ok (.invokevirtual 31, 3) := by decide +kernel
theorem dX8_put_5 : decode cX8_put 5 = .ok (.ifCond .eq 14, 3) := by decide +kernel
theorem dX8_put_8 : decode cX8_put 8 = .ok (.aload_n 0, 1) := by decide +kernel
theorem dX8_put_9 : decode cX8_put 9 = .ok (.getfield 9, 3) := by decide +kernel
theorem dX8_put_12 : decode cX8_put 12 = .ok (.iload_n 1, 1) := by decide +kernel
theorem dX8_put_13 : decode cX8_put 13 = .ok (.aload_n 0, 1) := by decide +kernel
theorem dX8_put_14 : decode cX8_put 14 = .ok (.lload_n 2, 1) := by decide +kernel
theorem dX8_put_15 : decode cX8_put 15 = .ok (.invokevirtual 35, 3) := by decide +kernel
theorem dX8_put_18 : decode cX8_put 18 = .ok (.lastore, 1) := by decide +kernel
theorem dX8_put_19 : decode cX8_put 19 = .ok (.return_, 1) := by decide +kernel
theorem dX8_narrowed_0 : decode cX8_narrowed 0 = .ok (.aload_n 0, 1) := by decide +kernel
theorem dX8_narrowed_1 : decode cX8_narrowed 1 = .ok (.getfield 15, 3) := by decide +kernel
theorem dX8_narrowed_4 : decode cX8_narrowed 4 = .ok (.tableswitch 62 0 4 #[36, 41, 46, 62, 50], 36) := by decide +kernel
theorem dX8_narrowed_40 : decode cX8_narrowed 40 = .ok (.lload_n 1, 1) := by decide +kernel
theorem dX8_narrowed_41 : decode cX8_narrowed 41 = .ok (.l2i, 1) := by decide +kernel
theorem dX8_narrowed_42 : decode cX8_narrowed 42 = .ok (.i2b, 1) := by decide +kernel
theorem dX8_narrowed_43 : decode cX8_narrowed 43 = .ok (.i2l, 1) := by decide +kernel
theorem dX8_narrowed_44 : decode cX8_narrowed 44 = .ok (.lreturn, 1) := by decide +kernel
theorem dX8_narrowed_45 : decode cX8_narrowed 45 = .ok (.lload_n 1, 1) := by decide +kernel
theorem dX8_narrowed_46 : decode cX8_narrowed 46 = .ok (.l2i, 1) := by decide +kernel
theorem dX8_narrowed_47 : decode cX8_narrowed 47 = .ok (.i2s, 1) := by decide +kernel
theorem dX8_narrowed_48 : decode cX8_narrowed 48 = .ok (.i2l, 1) := by decide +kernel
theorem dX8_narrowed_49 : decode cX8_narrowed 49 = .ok (.lreturn, 1) := by decide +kernel
theorem dX8_narrowed_50 : decode cX8_narrowed 50 = .ok (.lload_n 1, 1) := by decide +kernel
theorem dX8_narrowed_51 : decode cX8_narrowed 51 = .ok (.l2i, 1) := by decide +kernel
theorem dX8_narrowed_52 : decode cX8_narrowed 52 = .ok (.i2l, 1) := by decide +kernel
theorem dX8_narrowed_53 : decode cX8_narrowed 53 = .ok (.lreturn, 1) := by decide +kernel
theorem dX8_narrowed_54 : decode cX8_narrowed 54 = .ok (.lload_n 1, 1) := by decide +kernel
theorem dX8_narrowed_55 : decode cX8_narrowed 55 = .ok (.lconst 0, 1) := by decide +kernel
theorem dX8_narrowed_56 : decode cX8_narrowed 56 = .ok (.lcmp, 1) := by decide +kernel
theorem dX8_narrowed_57 : decode cX8_narrowed 57 = .ok (.ifCond .eq 7, 3) := by decide +kernel
theorem dX8_narrowed_60 : decode cX8_narrowed 60 = .ok (.lconst 1, 1) := by decide +kernel
theorem dX8_narrowed_61 : decode cX8_narrowed 61 = .ok (.goto 4, 3) := by decide +kernel
theorem dX8_narrowed_64 : decode cX8_narrowed 64 = .ok (.lconst 0, 1) := by decide +kernel
theorem dX8_narrowed_65 : decode cX8_narrowed 65 = .ok (.lreturn, 1) := by decide +kernel
theorem dX8_narrowed_66 : decode cX8_narrowed 66 = .ok (.lload_n 1, 1) := by decide +kernel
theorem dX8_narrowed_67 : decode cX8_narrowed 67 = .ok (.lreturn, 1) := by decide +kernel
theorem dX8_takeFrom_0 : decode cX8_takeFrom 0 = .ok (.aload_n 1, 1) := by decide +kernel
theorem dX8_takeFrom_1 : decode cX8_takeFrom 1 = .ok (.iload_n 2, 1) := by decide +kernel
theorem dX8_takeFrom_2 : decode cX8_takeFrom 2 = .ok (.iload 4, 2) := by decide +kernel
theorem dX8_takeFrom_4 : decode cX8_takeFrom 4 = .ok (.invokevirtual 39, 3) := by decide +kernel
theorem dX8_takeFrom_7 : decode cX8_takeFrom 7 = .ok (.ifCond .eq 28, 3) := by decide +kernel
theorem dX8_takeFrom_10 : decode cX8_takeFrom 10 = .ok (.aload_n 0, 1) := by decide +kernel
theorem dX8_takeFrom_11 : decode cX8_takeFrom 11 = .ok (.iload_n 3, 1) := by decide +kernel
theorem dX8_takeFrom_12 : decode cX8_takeFrom 12 = .ok (.iload 4, 2) := by decide +kernel
theorem dX8_takeFrom_14 : decode cX8_takeFrom 14 = .ok (.invokevirtual 39, 3) := by decide +kernel
theorem dX8_takeFrom_17 : decode cX8_takeFrom 17 = .ok (.ifCond .eq 18, 3) := by decide +kernel
theorem dX8_takeFrom_20 : decode cX8_takeFrom 20 = .ok (.aload_n 1, 1) := by decide +kernel
theorem dX8_takeFrom_21 : decode cX8_takeFrom 21 = .ok (.getfield 9, 3) := by decide +kernel
theorem dX8_takeFrom_24 : decode cX8_takeFrom 24 = .ok (.iload_n 2, 1) := by decide +kernel
theorem dX8_takeFrom_25 : decode cX8_takeFrom 25 = .ok (.aload_n 0, 1) := by decide +kernel
theorem dX8_takeFrom_26 : decode cX8_takeFrom 26 = .ok (.getfield 9, 3) := by decide +kernel
theorem dX8_takeFrom_29 : decode cX8_takeFrom 29 = .ok (.iload_n 3, 1) := by decide +kernel
theorem dX8_takeFrom_30 : decode cX8_takeFrom 30 = .ok (.iload 4, 2) := by decide +kernel
theorem dX8_takeFrom_32 : decode cX8_takeFrom 32 = .ok (.invokestatic 43, 3) := by decide +kernel
theorem dX8_takeFrom_35 : decode cX8_takeFrom 35 = .ok (.return_, 1) := by decide +kernel
theorem dX9_init_0 : decode cX9_init 0 = .ok (.aload_n 0, 1) := by decide +kernel
theorem dX9_init_1 : decode cX9_init 1 = .ok (.invokespecial 3, 3) := by decide +kernel
theorem dX9_init_4 : decode cX9_init 4 = .ok (.aload_n 0, 1) := by decide +kernel
theorem dX9_init_5 : decode cX9_init 5 = .ok (.new 9, 3) := by decide +kernel
theorem dX9_init_8 : decode cX9_init 8 = .ok (.dup, 1) := by decide +kernel
theorem dX9_init_9 : decode cX9_init 9 = .ok (.invokespecial 11, 3) := by decide +kernel
theorem dX9_init_12 : decode cX9_init 12 = .ok (.putfield 12, 3) := by decide +kernel
theorem dX9_init_15 : decode cX9_init 15 = .ok (.aload_n 0, 1) := by decide +kernel
theorem dX9_init_16 : decode cX9_init 16 = .ok (.new 9, 3) := by decide +kernel
theorem dX9_init_19 : decode cX9_init 19 = .ok (.dup, 1) := by decide +kernel
theorem dX9_init_20 : decode cX9_init 20 = .ok (.invokespecial 11, 3) := by decide +kernel
theorem dX9_init_23 : decode cX9_init 23 = .ok (.putfield 18, 3) := by decide +kernel
theorem dX9_init_26 : decode cX9_init 26 = .ok (.aload_n 0, 1) := by decide +kernel
theorem dX9_init_27 : decode cX9_init 27 = .ok (.new 9, 3) := by decide +kernel
theorem dX9_init_30 : decode cX9_init 30 = .ok (.dup, 1) := by decide +kernel
theorem dX9_init_31 : decode cX9_init 31 = .ok (.invokespecial 11, 3) := by decide +kernel
theorem dX9_init_34 : decode cX9_init 34 = .ok (.putfield 21, 3) := by decide +kernel
theorem dX9_init_37 : decode cX9_init 37 = .ok (.aload_n 0, 1) := by decide +kernel
theorem dX9_init_38 : decode cX9_init 38 = .ok (.iconst 0, 1) := by decide +kernel
theorem dX9_init_39 : decode cX9_init 39 = .ok (.putfield 24, 3) := by decide +kernel
theorem dX9_init_42 : decode cX9_init 42 = .ok (.aload_n 0, 1) := by decide +kernel
theorem dX9_init_43 : decode cX9_init 43 = .ok (.new 28, 3) := by decide +kernel
theorem dX9_init_46 : decode cX9_init 46 = .ok (.dup, 1) := by decide +kernel
theorem dX9_init_47 : decode cX9_init 47 = .ok (.invokespecial 30, 3) := by decide +kernel
theorem dX9_init_50 : decode cX9_init 50 = .ok (.putfield 31, 3) := by decide +kernel
theorem dX9_init_53 : decode cX9_init 53 = .ok (.aload_n 0, 1) := by decide +kernel
theorem dX9_init_54 : decode cX9_init 54 = .ok (.bipush 6, 2) := by decide +kernel
theorem dX9_init_56 : decode cX9_init 56 = .ok (.anewarray 35, 3) := by decide +kernel
theorem dX9_init_59 : decode cX9_init 59 = .ok (.putfield 37, 3) := by decide +kernel
theorem dX9_init_62 : decode cX9_init 62 = .ok (.aload_n 0, 1) := by decide +kernel
theorem dX9_init_63 : decode cX9_init 63 = .ok (.iconst 0, 1) := by decide +kernel
theorem dX9_init_64 : decode cX9_init 64 = .ok (.putfield 41, 3) := by decide +kernel
theorem dX9_init_67 : decode cX9_init 67 = .ok (.aload_n 0, 1) := by decide +kernel
theorem dX9_init_68 : decode cX9_init 68 = .ok (.new 45, 3) := by decide +kernel
theorem dX9_init_71 : decode cX9_init 71 = .ok (.dup, 1) := by decide +kernel
theorem dX9_init_72 : decode cX9_init 72 = .ok (.invokespecial 47, 3) := by decide +kernel
theorem dX9_init_75 : decode cX9_init 75 = .ok (.putfield 48, 3) := by decide +kernel
theorem dX9_init_78 : decode cX9_init 78 = .ok (.aload_n 0, 1) := by decide +kernel
theorem dX9_init_79 : decode cX9_init 79 = .ok (.new 52, 3) := by decide +kernel
theorem dX9_init_82 : decode cX9_init 82 = .ok (.dup, 1) := by decide +kernel
theorem dX9_init_83 : decode cX9_init 83 = .ok (.invokespecial 54, 3) := by decide +kernel
theorem dX9_init_86 : decode cX9_init 86 = .ok (.putfield 55, 3) := by decide +kernel
theorem dX9_init_89 : decode cX9_init 89 = .ok (.aload_n 0, 1) := by decide +kernel
theorem dX9_init_90 : decode cX9_init 90 = .ok (.new 59, 3) := by decide +kernel
theorem dX9_init_93 : decode cX9_init 93 = .ok (.dup, 1) := by decide +kernel
theorem dX9_init_94 : decode cX9_init 94 = .ok (.invokespecial 61, 3) := by decide +kernel
theorem dX9_init_97 : decode cX9_init 97 = .ok (.putfield 62, 3) := by decide +kernel
theorem dX9_init_100 : decode cX9_init 100 = .ok (.aload_n 0, 1) := by decide +kernel
theorem dX9_init_101 : decode cX9_init 101 = .ok (.bipush 6, 2) := by decide +kernel
theorem dX9_init_103 : decode cX9_init 103 = .ok (.anewarray 66, 3) := by decide +kernel
theorem dX9_init_106 : decode cX9_init 106 = .ok (.putfield 68, 3) := by decide +kernel
theorem dX9_init_109 : decode cX9_init 109 = .ok (.iconst 0, 1) := by decide +kernel
theorem dX9_init_110 : decode cX9_init 110 = .ok (.istore_n 1, 1) := by decide +kernel
theorem dX9_init_111 : decode cX9_init 111 = .ok (.iload_n 1, 1) := by decide +kernel
theorem dX9_init_112 : decode cX9_init 112 = .ok (.bipush 6, 2) := by decide +kernel
theorem dX9_init_114 : decode cX9_init 114 = .ok (.if_icmp .ge 31, 3) := by decide +kernel
theorem dX9_init_117 : decode cX9_init 117 = .ok (.iload_n 1, 1) := by decide +kernel
theorem dX9_init_118 : decode cX9_init 118 = .ok (.aload_n 0, 1) := by decide +kernel
theorem dX9_init_119 : decode cX9_init 119 = .ok (.getfield 37, 3) := by decide +kernel
theorem dX9_init_122 : decode cX9_init 122 = .ok (.arraylength, 1) := by decide +kernel
theorem dX9_init_123 : decode cX9_init 123 = .ok (.if_icmp .ge 22, 3) := by decide +kernel
theorem dX9_init_126 : decode cX9_init 126 = .ok (.aload_n 0, 1) := by decide +kernel
theorem dX9_init_127 : decode cX9_init 127 = .ok (.getfield 37, 3) := by decide +kernel
theorem dX9_init_130 : decode cX9_init 130 = .ok (.iload_n 1, 1) := by decide +kernel
theorem dX9_init_131 : decode cX9_init 131 = .ok (.new 35, 3) := by decide +kernel
theorem dX9_init_134 : decode cX9_init 134 = .ok (.dup, 1) := by decide +kernel
theorem dX9_init_135 : decode cX9_init 135 = .ok (.invokespecial 72, 3) := by decide +kernel
theorem dX9_init_138 : decode cX9_init 138 = .ok (.aastore, 1) := by decide +kernel
theorem dX9_init_139 : decode cX9_init 139 = .ok (.iinc 1 1, 3) := by decide +kernel
theorem dX9_init_142 : decode cX9_init 142 = .ok (.goto (-31), 3) := by decide +kernel
theorem dX9_init_145 : decode cX9_init 145 = .ok (.iconst 0, 1) := by decide +kernel
theorem dX9_init_146 : decode cX9_init 146 = .ok (.istore_n 1, 1) := by decide +kernel
theorem dX9_init_147 : decode cX9_init 147 = .ok (.iload_n 1, 1) := by decide +kernel
theorem dX9_init_148 : decode cX9_init 148 = .ok (.bipush 6, 2) := by decide +kernel
theorem dX9_init_150 : decode cX9_init 150 = .ok (.if_icmp .ge 31, 3) := by decide +kernel
theorem dX9_init_153 : decode cX9_init 153 = .ok (.iload_n 1, 1) := by decide +kernel
theorem dX9_init_154 : decode cX9_init 154 = .ok (.aload_n 0, 1) := by decide +kernel
theorem dX9_init_155 : decode cX9_init 155 = .ok (.getfield 68, 3) := by decide +kernel
theorem dX9_init_158 : decode cX9_init 158 = .ok (.arraylength, 1) := by decide +kernel
theorem dX9_init_159 : decode cX9_init 159 = .ok (.if_icmp .ge 22, 3) := by decide +kernel
theorem dX9_init_162 : decode cX9_init 162 = .ok (.aload_n 0, 1) := by decide +kernel
theorem dX9_init_163 : decode cX9_init 163 = .ok (.getfield 68, 3) := by decide +kernel
theorem dX9_init_166 : decode cX9_init 166 = .ok (.iload_n 1, 1) := by decide +kernel
theorem dX9_init_167 : decode cX9_init 167 = .ok (.new 66, 3) := by decide +kernel
theorem dX9_init_170 : decode cX9_init 170 = .ok (.dup, 1) := by decide +kernel
theorem dX9_init_171 : decode cX9_init 171 = .ok (.invokespecial 73, 3) := by decide +kernel
theorem dX9_init_174 : decode cX9_init 174 = .ok (.aastore, 1) := by decide +kernel
theorem dX9_init_175 : decode cX9_init 175 = .ok (.iinc 1 1, 3) := by decide +kernel
theorem dX9_init_178 : decode cX9_init 178 = .ok (.goto (-31), 3) := by decide +kernel
theorem dX9_init_181 : decode cX9_init 181 = .ok (.return_, 1) := by decide +kernel
theorem dX9_beast_0 : decode cX9_beast 0 = .ok (.iload_n 1, 1) := by decide +kernel
theorem dX9_beast_1 : decode cX9_beast 1 = .ok (.invokestatic 74, 3) := by decide +kernel
theorem dX9_beast_4 : decode cX9_beast 4 = .ok (.ifCond .eq 10, 3) := by decide +kernel
theorem dX9_beast_7 : decode cX9_beast 7 = .ok (.iload_n 3, 1) := by decide +kernel
theorem dX9_beast_8 : decode cX9_beast 8 = .ok (.invokestatic 78, 3) := by decide +kernel
theorem dX9_beast_11 : decode cX9_beast 11 = .ok (.ifCond .ne 5, 3) := by decide +kernel
theorem dX9_beast_14 : decode cX9_beast 14 = .ok (.iconst (-1), 1) := by decide +kernel
theorem dX9_beast_15 : decode cX9_beast 15 = .ok (.ireturn, 1) := by decide +kernel
theorem dX9_beast_16 : decode cX9_beast 16 = .ok (.iload_n 2, 1) := by decide +kernel
theorem dX9_beast_17 : decode cX9_beast 17 = .ok (.iconst 0, 1) := by decide +kernel
theorem dX9_beast_18 : decode cX9_beast 18 = .ok (.bipush 9, 2) := by decide +kernel
theorem dX9_beast_20 : decode cX9_beast 20 = .ok (.invokestatic 81, 3) := by decide +kernel
theorem dX9_beast_23 : decode cX9_beast 23 = .ok (.ifCond .eq 14, 3) := by decide +kernel
theorem dX9_beast_26 : decode cX9_beast 26 = .ok (.iload 4, 2) := by decide +kernel
theorem dX9_beast_28 : decode cX9_beast 28 = .ok (.iconst 0, 1) := by decide +kernel
theorem dX9_beast_29 : decode cX9_beast 29 = .ok (.bipush 9, 2) := by decide +kernel
theorem dX9_beast_31 : decode cX9_beast 31 = .ok (.invokestatic 81, 3) := by decide +kernel
theorem dX9_beast_34 : decode cX9_beast 34 = .ok (.ifCond .ne 6, 3) := by decide +kernel
theorem dX9_beast_37 : decode cX9_beast 37 = .ok (.bipush (-2), 2) := by decide +kernel
theorem dX9_beast_39 : decode cX9_beast 39 = .ok (.ireturn, 1) := by decide +kernel
theorem dX9_beast_40 : decode cX9_beast 40 = .ok (.aload_n 0, 1) := by decide +kernel
theorem dX9_beast_41 : decode cX9_beast 41 = .ok (.getfield 12, 3) := by decide +kernel
theorem dX9_beast_44 : decode cX9_beast 44 = .ok (.iload_n 3, 1) := by decide +kernel
theorem dX9_beast_45 : decode cX9_beast 45 = .ok (.invokevirtual 85, 3) := by decide +kernel
theorem dX9_beast_48 : decode cX9_beast 48 = .ok (.ifCond .ne 25, 3) := by decide +kernel
theorem dX9_beast_51 : decode cX9_beast 51 = .ok (.aload_n 0, 1) := by decide +kernel
theorem dX9_beast_52 : decode cX9_beast 52 = .ok (.getfield 12, 3) := by decide +kernel
theorem dX9_beast_55 : decode cX9_beast 55 = .ok (.getfield 88, 3) := by decide +kernel
theorem dX9_beast_58 : decode cX9_beast 58 = .ok (.iload_n 3, 1) := by decide +kernel
theorem dX9_beast_59 : decode cX9_beast 59 = .ok (.if_icmp .eq 14, 3) := by decide +kernel
theorem dX9_beast_62 : decode cX9_beast 62 = .ok (.aload_n 0, 1) := by decide +kernel
theorem dX9_beast_63 : decode cX9_beast 63 = .ok (.getfield 12, 3) := by decide +kernel
theorem dX9_beast_66 : decode cX9_beast 66 = .ok (.iload_n 3, 1) := by decide +kernel
theorem dX9_beast_67 : decode cX9_beast 67 = .ok (.invokevirtual 91, 3) := by decide +kernel
theorem dX9_beast_70 : decode cX9_beast 70 = .ok (.ifCond .eq 6, 3) := by decide +kernel
theorem dX9_beast_73 : decode cX9_beast 73 = .ok (.bipush (-3), 2) := by decide +kernel
theorem dX9_beast_75 : decode cX9_beast 75 = .ok (.ireturn, 1) := by decide +kernel
theorem dX9_beast_76 : decode cX9_beast 76 = .ok (.aload_n 0, 1) := by decide +kernel
theorem dX9_beast_77 : decode cX9_beast 77 = .ok (.getfield 12, 3) := by decide +kernel
theorem dX9_beast_80 : decode cX9_beast 80 = .ok (.invokevirtual 94, 3) := by decide +kernel
theorem dX9_beast_83 : decode cX9_beast 83 = .ok (.bipush 6, 2) := by decide +kernel
theorem dX9_beast_85 : decode cX9_beast 85 = .ok (.if_icmp .lt 6, 3) := by decide +kernel
theorem dX9_beast_88 : decode cX9_beast 88 = .ok (.bipush (-4), 2) := by decide +kernel
theorem dX9_beast_90 : decode cX9_beast 90 = .ok (.ireturn, 1) := by decide +kernel
theorem dX9_beast_91 : decode cX9_beast 91 = .ok (.aload_n 0, 1) := by decide +kernel
theorem dX9_beast_92 : decode cX9_beast 92 = .ok (.getfield 12, 3) := by decide +kernel
theorem dX9_beast_95 : decode cX9_beast 95 = .ok (.iload_n 1, 1) := by decide +kernel
theorem dX9_beast_96 : decode cX9_beast 96 = .ok (.iload_n 2, 1) := by decide +kernel
theorem dX9_beast_97 : decode cX9_beast 97 = .ok (.iload_n 3, 1) := by decide +kernel
theorem dX9_beast_98 : decode cX9_beast 98 = .ok (.iload 4, 2) := by decide +kernel
theorem dX9_beast_100 : decode cX9_beast 100 = .ok (.invokevirtual 98, 3) := by decide +kernel
theorem dX9_beast_103 : decode cX9_beast 103 = .ok (.ireturn, 1) := by decide +kernel
theorem dX9_of_0 : decode cX9_of 0 = .ok (.aload_n 0, 1) := by decide +kernel
theorem dX9_of_1 : decode cX9_of 1 = .ok (.getfield 12, 3) := by decide +kernel
theorem dX9_of_4 : decode cX9_of 4 = .ok (.iload_n 1, 1) := by decide +kernel
theorem dX9_of_5 : decode cX9_of 5 = .ok (.invokevirtual 102, 3) := by decide +kernel
theorem dX9_of_8 : decode cX9_of 8 = .ok (.ifCond .ne 5, 3) := by decide +kernel
theorem dX9_of_11 : decode cX9_of 11 = .ok (.iconst (-1), 1) := by decide +kernel
theorem dX9_of_12 : decode cX9_of 12 = .ok (.ireturn, 1) := by decide +kernel
theorem dX9_of_13 : decode cX9_of 13 = .ok (.iload_n 2, 1) := by decide +kernel
theorem dX9_of_14 : decode cX9_of 14 = .ok (.tableswitch 133 0 7 #[46, 58, 70, 82, 94, 106, 115, 124], 46) := by decide +kernel
theorem dX9_of_60 : decode cX9_of 60 = .ok (.aload_n 0, 1) := by decide +kernel
theorem dX9_of_61 : decode cX9_of 61 = .ok (.getfield 12, 3) := by decide +kernel
theorem dX9_of_64 : decode cX9_of 64 = .ok (.getfield 105, 3) := by decide +kernel
theorem dX9_of_67 : decode cX9_of 67 = .ok (.iload_n 1, 1) := by decide +kernel
theorem dX9_of_68 : decode cX9_of 68 = .ok (.invokevirtual 109, 3) := by decide +kernel
theorem dX9_of_71 : decode cX9_of 71 = .ok (.ireturn, 1) := by decide +kernel
theorem dX9_of_72 : decode cX9_of 72 = .ok (.aload_n 0, 1) := by decide +kernel
theorem dX9_of_73 : decode cX9_of 73 = .ok (.getfield 12, 3) := by decide +kernel
theorem dX9_of_76 : decode cX9_of 76 = .ok (.getfield 115, 3) := by decide +kernel
theorem dX9_of_79 : decode cX9_of 79 = .ok (.iload_n 1, 1) := by decide +kernel
theorem dX9_of_80 : decode cX9_of 80 = .ok (.invokevirtual 109, 3) := by decide +kernel
theorem dX9_of_83 : decode cX9_of 83 = .ok (.ireturn, 1) := by decide +kernel
theorem dX9_of_84 : decode cX9_of 84 = .ok (.aload_n 0, 1) := by decide +kernel
theorem dX9_of_85 : decode cX9_of 85 = .ok (.getfield 12, 3) := by decide +kernel
theorem dX9_of_88 : decode cX9_of 88 = .ok (.getfield 118, 3) := by decide +kernel
theorem dX9_of_91 : decode cX9_of 91 = .ok (.iload_n 1, 1) := by decide +kernel
theorem dX9_of_92 : decode cX9_of 92 = .ok (.invokevirtual 109, 3) := by decide +kernel
theorem dX9_of_95 : decode cX9_of 95 = .ok (.ireturn, 1) := by decide +kernel
theorem dX9_of_96 : decode cX9_of 96 = .ok (.aload_n 0, 1) := by decide +kernel
theorem dX9_of_97 : decode cX9_of 97 = .ok (.getfield 12, 3) := by decide +kernel
theorem dX9_of_100 : decode cX9_of 100 = .ok (.getfield 121, 3) := by decide +kernel
theorem dX9_of_103 : decode cX9_of 103 = .ok (.iload_n 1, 1) := by decide +kernel
theorem dX9_of_104 : decode cX9_of 104 = .ok (.invokevirtual 109, 3) := by decide +kernel
theorem dX9_of_107 : decode cX9_of 107 = .ok (.ireturn, 1) := by decide +kernel
theorem dX9_of_108 : decode cX9_of 108 = .ok (.aload_n 0, 1) := by decide +kernel
theorem dX9_of_109 : decode cX9_of 109 = .ok (.getfield 12, 3) := by decide +kernel
theorem dX9_of_112 : decode cX9_of 112 = .ok (.getfield 124, 3) := by decide +kernel
theorem dX9_of_115 : decode cX9_of 115 = .ok (.iload_n 1, 1) := by decide +kernel
theorem dX9_of_116 : decode cX9_of 116 = .ok (.invokevirtual 109, 3) := by decide +kernel
theorem dX9_of_119 : decode cX9_of 119 = .ok (.ireturn, 1) := by decide +kernel
theorem dX9_of_120 : decode cX9_of 120 = .ok (.aload_n 0, 1) := by decide +kernel
theorem dX9_of_121 : decode cX9_of 121 = .ok (.iload_n 1, 1) := by decide +kernel
theorem dX9_of_122 : decode cX9_of 122 = .ok (.invokevirtual 127, 3) := by decide +kernel
theorem dX9_of_125 : decode cX9_of 125 = .ok (.getfield 131, 3) := by decide +kernel
theorem dX9_of_128 : decode cX9_of 128 = .ok (.ireturn, 1) := by decide +kernel
theorem dX9_of_129 : decode cX9_of 129 = .ok (.aload_n 0, 1) := by decide +kernel
theorem dX9_of_130 : decode cX9_of 130 = .ok (.iload_n 1, 1) := by decide +kernel
theorem dX9_of_131 : decode cX9_of 131 = .ok (.invokevirtual 127, 3) := by decide +kernel
theorem dX9_of_134 : decode cX9_of 134 = .ok (.getfield 136, 3) := by decide +kernel
theorem dX9_of_137 : decode cX9_of 137 = .ok (.ireturn, 1) := by decide +kernel
theorem dX9_of_138 : decode cX9_of 138 = .ok (.aload_n 0, 1) := by decide +kernel
theorem dX9_of_139 : decode cX9_of 139 = .ok (.getfield 12, 3) := by decide +kernel
theorem dX9_of_142 : decode cX9_of 142 = .ok (.iload_n 1, 1) := by decide +kernel
theorem dX9_of_143 : decode cX9_of 143 = .ok (.invokevirtual 139, 3) := by decide +kernel
theorem dX9_of_146 : decode cX9_of 146 = .ok (.ireturn, 1) := by decide +kernel
theorem dX9_of_147 : decode cX9_of 147 = .ok (.iconst (-1), 1) := by decide +kernel
theorem dX9_of_148 : decode cX9_of 148 = .ok (.ireturn, 1) := by decide +kernel
theorem dX9_lookedAt_0 : decode cX9_lookedAt 0 = .ok (.aload_n 0, 1) := by decide +kernel
theorem dX9_lookedAt_1 : decode cX9_lookedAt 1 = .ok (.getfield 12, 3) := by decide +kernel
theorem dX9_lookedAt_4 : decode cX9_lookedAt 4 = .ok (.iload_n 1, 1) := by decide +kernel
theorem dX9_lookedAt_5 : decode cX9_lookedAt 5 = .ok (.invokevirtual 142, 3) := by decide +kernel
theorem dX9_lookedAt_8 : decode cX9_lookedAt 8 = .ok (.aload_n 0, 1) := by decide +kernel
theorem dX9_lookedAt_9 : decode cX9_lookedAt 9 = .ok (.getfield 12, 3) := by decide +kernel
theorem dX9_lookedAt_12 : decode cX9_lookedAt 12 = .ok (.getfield 146, 3) := by decide +kernel
theorem dX9_lookedAt_15 : decode cX9_lookedAt 15 = .ok (.areturn, 1) := by decide +kernel
theorem dX9_set_0 : decode cX9_set 0 = .ok (.aload_n 0, 1) := by decide +kernel
theorem dX9_set_1 : decode cX9_set 1 = .ok (.getfield 12, 3) := by decide +kernel
theorem dX9_set_4 : decode cX9_set 4 = .ok (.iload_n 1, 1) := by decide +kernel
theorem dX9_set_5 : decode cX9_set 5 = .ok (.invokevirtual 102, 3) := by decide +kernel
theorem dX9_set_8 : decode cX9_set 8 = .ok (.ifCond .eq 12, 3) := by decide +kernel
theorem dX9_set_11 : decode cX9_set 11 = .ok (.iload_n 2, 1) := by decide +kernel
theorem dX9_set_12 : decode cX9_set 12 = .ok (.iconst 0, 1) := by decide +kernel
theorem dX9_set_13 : decode cX9_set 13 = .ok (.iconst 1, 1) := by decide +kernel
theorem dX9_set_14 : decode cX9_set 14 = .ok (.invokestatic 81, 3) := by decide +kernel
theorem dX9_set_17 : decode cX9_set 17 = .ok (.ifCond .ne 5, 3) := by decide +kernel
theorem dX9_set_20 : decode cX9_set 20 = .ok (.iconst (-1), 1) := by decide +kernel
theorem dX9_set_21 : decode cX9_set 21 = .ok (.ireturn, 1) := by decide +kernel
theorem dX9_set_22 : decode cX9_set 22 = .ok (.iload_n 3, 1) := by decide +kernel
theorem dX9_set_23 : decode cX9_set 23 = .ok (.iconst 0, 1) := by decide +kernel
theorem dX9_set_24 : decode cX9_set 24 = .ok (.iload_n 2, 1) := by decide +kernel
theorem dX9_set_25 : decode cX9_set 25 = .ok (.ifCond .ne 8, 3) := by decide +kernel
theorem dX9_set_28 : decode cX9_set 28 = .ok (.bipush 35, 2) := by decide +kernel
theorem dX9_set_30 : decode cX9_set 30 = .ok (.goto 5, 3) := by decide +kernel
theorem dX9_set_33 : decode cX9_set 33 = .ok (.bipush 9, 2) := by decide +kernel
theorem dX9_set_35 : decode cX9_set 35 = .ok (.invokestatic 81, 3) := by decide +kernel
theorem dX9_set_38 : decode cX9_set 38 = .ok (.ifCond .ne 6, 3) := by decide +kernel
theorem dX9_set_41 : decode cX9_set 41 = .ok (.bipush (-2), 2) := by decide +kernel
theorem dX9_set_43 : decode cX9_set 43 = .ok (.ireturn, 1) := by decide +kernel
theorem dX9_set_44 : decode cX9_set 44 = .ok (.iload_n 2, 1) := by decide +kernel
theorem dX9_set_45 : decode cX9_set 45 = .ok (.ifCond .ne 13, 3) := by decide +kernel
theorem dX9_set_48 : decode cX9_set 48 = .ok (.aload_n 0, 1) := by decide +kernel
theorem dX9_set_49 : decode cX9_set 49 = .ok (.getfield 12, 3) := by decide +kernel
theorem dX9_set_52 : decode cX9_set 52 = .ok (.getfield 121, 3) := by decide +kernel
theorem dX9_set_55 : decode cX9_set 55 = .ok (.goto 10, 3) := by decide +kernel
theorem dX9_set_58 : decode cX9_set 58 = .ok (.aload_n 0, 1) := by decide +kernel
theorem dX9_set_59 : decode cX9_set 59 = .ok (.getfield 12, 3) := by decide +kernel
theorem dX9_set_62 : decode cX9_set 62 = .ok (.getfield 124, 3) := by decide +kernel
theorem dX9_set_65 : decode cX9_set 65 = .ok (.astore 4, 2) := by decide +kernel
theorem dX9_set_67 : decode cX9_set 67 = .ok (.aload 4, 2) := by decide +kernel
theorem dX9_set_69 : decode cX9_set 69 = .ok (.iload_n 1, 1) := by decide +kernel
theorem dX9_set_70 : decode cX9_set 70 = .ok (.invokevirtual 109, 3) := by decide +kernel
theorem dX9_set_73 : decode cX9_set 73 = .ok (.istore 5, 2) := by decide +kernel
theorem dX9_set_75 : decode cX9_set 75 = .ok (.iload_n 2, 1) := by decide +kernel
theorem dX9_set_76 : decode cX9_set 76 = .ok (.ifCond .ne 23, 3) := by decide +kernel
theorem dX9_set_79 : decode cX9_set 79 = .ok (.iload_n 3, 1) := by decide +kernel
theorem dX9_set_80 : decode cX9_set 80 = .ok (.iload 5, 2) := by decide +kernel
theorem dX9_set_82 : decode cX9_set 82 = .ok (.if_icmp .eq 17, 3) := by decide +kernel
theorem dX9_set_85 : decode cX9_set 85 = .ok (.aload_n 0, 1) := by decide +kernel
theorem dX9_set_86 : decode cX9_set 86 = .ok (.getfield 12, 3) := by decide +kernel
theorem dX9_set_89 : decode cX9_set 89 = .ok (.iload_n 3, 1) := by decide +kernel
theorem dX9_set_90 : decode cX9_set 90 = .ok (.invokevirtual 91, 3) := by decide +kernel
theorem dX9_set_93 : decode cX9_set 93 = .ok (.ifCond .eq 6, 3) := by decide +kernel
theorem dX9_set_96 : decode cX9_set 96 = .ok (.bipush (-3), 2) := by decide +kernel
theorem dX9_set_98 : decode cX9_set 98 = .ok (.ireturn, 1) := by decide +kernel
theorem dX9_set_99 : decode cX9_set 99 = .ok (.aload 4, 2) := by decide +kernel
theorem dX9_set_101 : decode cX9_set 101 = .ok (.iload_n 1, 1) := by decide +kernel
theorem dX9_set_102 : decode cX9_set 102 = .ok (.iload_n 3, 1) := by decide +kernel
theorem dX9_set_103 : decode cX9_set 103 = .ok (.invokevirtual 150, 3) := by decide +kernel
theorem dX9_set_106 : decode cX9_set 106 = .ok (.iload 5, 2) := by decide +kernel
theorem dX9_set_108 : decode cX9_set 108 = .ok (.ireturn, 1) := by decide +kernel
theorem dX9_enemies_0 : decode cX9_enemies 0 = .ok (.aload_n 0, 1) := by decide +kernel
theorem dX9_enemies_1 : decode cX9_enemies 1 = .ok (.getfield 12, 3) := by decide +kernel
theorem dX9_enemies_4 : decode cX9_enemies 4 = .ok (.iload_n 1, 1) := by decide +kernel
theorem dX9_enemies_5 : decode cX9_enemies 5 = .ok (.invokevirtual 102, 3) := by decide +kernel
theorem dX9_enemies_8 : decode cX9_enemies 8 = .ok (.ifCond .eq 14, 3) := by decide +kernel
theorem dX9_enemies_11 : decode cX9_enemies 11 = .ok (.aload_n 0, 1) := by decide +kernel
theorem dX9_enemies_12 : decode cX9_enemies 12 = .ok (.getfield 12, 3) := by decide +kernel
theorem dX9_enemies_15 : decode cX9_enemies 15 = .ok (.iload_n 2, 1) := by decide +kernel
theorem dX9_enemies_16 : decode cX9_enemies 16 = .ok (.invokevirtual 102, 3) := by decide +kernel
theorem dX9_enemies_19 : decode cX9_enemies 19 = .ok (.ifCond .ne 5, 3) := by decide +kernel
theorem dX9_enemies_22 : decode cX9_enemies 22 = .ok (.iconst (-1), 1) := by decide +kernel
theorem dX9_enemies_23 : decode cX9_enemies 23 = .ok (.ireturn, 1) := by decide +kernel
theorem dX9_enemies_24 : decode cX9_enemies 24 = .ok (.iload_n 1, 1) := by decide +kernel
theorem dX9_enemies_25 : decode cX9_enemies 25 = .ok (.iload_n 2, 1) := by decide +kernel
theorem dX9_enemies_26 : decode cX9_enemies 26 = .ok (.if_icmp .ne 6, 3) := by decide +kernel
theorem dX9_enemies_29 : decode cX9_enemies 29 = .ok (.bipush (-2), 2) := by decide +kernel
theorem dX9_enemies_31 : decode cX9_enemies 31 = .ok (.ireturn, 1) := by decide +kernel
theorem dX9_enemies_32 : decode cX9_enemies 32 = .ok (.aload_n 0, 1) := by decide +kernel
theorem dX9_enemies_33 : decode cX9_enemies 33 = .ok (.getfield 12, 3) := by decide +kernel
theorem dX9_enemies_36 : decode cX9_enemies 36 = .ok (.iload_n 1, 1) := by decide +kernel
theorem dX9_enemies_37 : decode cX9_enemies 37 = .ok (.iload_n 2, 1) := by decide +kernel
theorem dX9_enemies_38 : decode cX9_enemies 38 = .ok (.invokevirtual 154, 3) := by decide +kernel
theorem dX9_enemies_41 : decode cX9_enemies 41 = .ok (.ifCond .eq 7, 3) := by decide +kernel
theorem dX9_enemies_44 : decode cX9_enemies 44 = .ok (.iconst 1, 1) := by decide +kernel
theorem dX9_enemies_45 : decode cX9_enemies 45 = .ok (.goto 4, 3) := by decide +kernel
theorem dX9_enemies_48 : decode cX9_enemies 48 = .ok (.iconst 0, 1) := by decide +kernel
theorem dX9_enemies_49 : decode cX9_enemies 49 = .ok (.istore 4, 2) := by decide +kernel
theorem dX9_enemies_51 : decode cX9_enemies 51 = .ok (.aload_n 0, 1) := by decide +kernel
theorem dX9_enemies_52 : decode cX9_enemies 52 = .ok (.getfield 12, 3) := by decide +kernel
theorem dX9_enemies_55 : decode cX9_enemies 55 = .ok (.iload_n 1, 1) := by decide +kernel
theorem dX9_enemies_56 : decode cX9_enemies 56 = .ok (.iload_n 2, 1) := by decide +kernel
theorem dX9_enemies_57 : decode cX9_enemies 57 = .ok (.iload_n 3, 1) := by decide +kernel
theorem dX9_enemies_58 : decode cX9_enemies 58 = .ok (.invokevirtual 158, 3) := by decide +kernel
theorem dX9_enemies_61 : decode cX9_enemies 61 = .ok (.aload_n 0, 1) := by decide +kernel
theorem dX9_enemies_62 : decode cX9_enemies 62 = .ok (.getfield 12, 3) := by decide +kernel
theorem dX9_enemies_65 : decode cX9_enemies 65 = .ok (.iload_n 2, 1) := by decide +kernel
theorem dX9_enemies_66 : decode cX9_enemies 66 = .ok (.iload_n 1, 1) := by decide +kernel
theorem dX9_enemies_67 : decode cX9_enemies 67 = .ok (.iload_n 3, 1) := by decide +kernel
theorem dX9_enemies_68 : decode cX9_enemies 68 = .ok (.invokevirtual 158, 3) := by decide +kernel
theorem dX9_enemies_71 : decode cX9_enemies 71 = .ok (.iload 4, 2) := by decide +kernel
theorem dX9_enemies_73 : decode cX9_enemies 73 = .ok (.ireturn, 1) := by decide +kernel
theorem dX9_tamer_0 : decode cX9_tamer 0 = .ok (.iload_n 1, 1) := by decide +kernel
theorem dX9_tamer_1 : decode cX9_tamer 1 = .ok (.invokestatic 78, 3) := by decide +kernel
theorem dX9_tamer_4 : decode cX9_tamer 4 = .ok (.ifCond .ne 5, 3) := by decide +kernel
theorem dX9_tamer_7 : decode cX9_tamer 7 = .ok (.iconst (-1), 1) := by decide +kernel
theorem dX9_tamer_8 : decode cX9_tamer 8 = .ok (.ireturn, 1) := by decide +kernel
theorem dX9_tamer_9 : decode cX9_tamer 9 = .ok (.aload_n 0, 1) := by decide +kernel
theorem dX9_tamer_10 : decode cX9_tamer 10 = .ok (.getfield 12, 3) := by decide +kernel
theorem dX9_tamer_13 : decode cX9_tamer 13 = .ok (.iload_n 1, 1) := by decide +kernel
theorem dX9_tamer_14 : decode cX9_tamer 14 = .ok (.invokevirtual 85, 3) := by decide +kernel
theorem dX9_tamer_17 : decode cX9_tamer 17 = .ok (.ifCond .eq 6, 3) := by decide +kernel
theorem dX9_tamer_20 : decode cX9_tamer 20 = .ok (.bipush (-3), 2) := by decide +kernel
theorem dX9_tamer_22 : decode cX9_tamer 22 = .ok (.ireturn, 1) := by decide +kernel
theorem dX9_tamer_23 : decode cX9_tamer 23 = .ok (.aload_n 0, 1) := by decide +kernel
theorem dX9_tamer_24 : decode cX9_tamer 24 = .ok (.getfield 12, 3) := by decide +kernel
theorem dX9_tamer_27 : decode cX9_tamer 27 = .ok (.getfield 88, 3) := by decide +kernel
theorem dX9_tamer_30 : decode cX9_tamer 30 = .ok (.istore_n 2, 1) := by decide +kernel
theorem dX9_tamer_31 : decode cX9_tamer 31 = .ok (.aload_n 0, 1) := by decide +kernel
theorem dX9_tamer_32 : decode cX9_tamer 32 = .ok (.getfield 12, 3) := by decide +kernel
theorem dX9_tamer_35 : decode cX9_tamer 35 = .ok (.iload_n 1, 1) := by decide +kernel
theorem dX9_tamer_36 : decode cX9_tamer 36 = .ok (.putfield 88, 3) := by decide +kernel
theorem dX9_tamer_39 : decode cX9_tamer 39 = .ok (.iload_n 2, 1) := by decide +kernel
theorem dX9_tamer_40 : decode cX9_tamer 40 = .ok (.ireturn, 1) := by decide +kernel
theorem dX9_feed_0 : decode cX9_feed 0 = .ok (.iload_n 2, 1) := by decide +kernel
theorem dX9_feed_1 : decode cX9_feed 1 = .ok (.iconst 0, 1) := by decide +kernel
theorem dX9_feed_2 : decode cX9_feed 2 = .ok (.iconst 4, 1) := by decide +kernel
theorem dX9_feed_3 : decode cX9_feed 3 = .ok (.invokestatic 81, 3) := by decide +kernel
theorem dX9_feed_6 : decode cX9_feed 6 = .ok (.ifCond .ne 6, 3) := by decide +kernel
theorem dX9_feed_9 : decode cX9_feed 9 = .ok (.bipush (-2), 2) := by decide +kernel
theorem dX9_feed_11 : decode cX9_feed 11 = .ok (.ireturn, 1) := by decide +kernel
theorem dX9_feed_12 : decode cX9_feed 12 = .ok (.aload_n 0, 1) := by decide +kernel
theorem dX9_feed_13 : decode cX9_feed 13 = .ok (.getfield 31, 3) := by decide +kernel
theorem dX9_feed_16 : decode cX9_feed 16 = .ok (.getfield 162, 3) := by decide +kernel
theorem dX9_feed_19 : decode cX9_feed 19 = .ok (.getfield 165, 3) := by decide +kernel
theorem dX9_feed_22 : decode cX9_feed 22 = .ok (.iload_n 2, 1) := by decide +kernel
theorem dX9_feed_23 : decode cX9_feed 23 = .ok (.iadd, 1) := by decide +kernel
theorem dX9_feed_24 : decode cX9_feed 24 = .ok (.bipush 100, 2) := by decide +kernel
theorem dX9_feed_26 : decode cX9_feed 26 = .ok (.if_icmp .le 6, 3) := by decide +kernel
theorem dX9_feed_29 : decode cX9_feed 29 = .ok (.bipush (-4), 2) := by decide +kernel
theorem dX9_feed_31 : decode cX9_feed 31 = .ok (.ireturn, 1) := by decide +kernel
theorem dX9_feed_32 : decode cX9_feed 32 = .ok (.iload_n 2, 1) := by decide +kernel
theorem dX9_feed_33 : decode cX9_feed 33 = .ok (.iconst 1, 1) := by decide +kernel
theorem dX9_feed_34 : decode cX9_feed 34 = .ok (.isub, 1) := by decide +kernel
theorem dX9_feed_35 : decode cX9_feed 35 = .ok (.istore_n 3, 1) := by decide +kernel
theorem dX9_feed_36 : decode cX9_feed 36 = .ok (.iload_n 3, 1) := by decide +kernel
theorem dX9_feed_37 : decode cX9_feed 37 = .ok (.ifCond .lt 29, 3) := by decide +kernel
theorem dX9_feed_40 : decode cX9_feed 40 = .ok (.aload_n 0, 1) := by decide +kernel
theorem dX9_feed_41 : decode cX9_feed 41 = .ok (.getfield 31, 3) := by decide +kernel
theorem dX9_feed_44 : decode cX9_feed 44 = .ok (.getfield 162, 3) := by decide +kernel
theorem dX9_feed_47 : decode cX9_feed 47 = .ok (.iload_n 1, 1) := by decide +kernel
theorem dX9_feed_48 : decode cX9_feed 48 = .ok (.bipush 8, 2) := by decide +kernel
theorem dX9_feed_50 : decode cX9_feed 50 = .ok (.iload_n 3, 1) := by decide +kernel
theorem dX9_feed_51 : decode cX9_feed 51 = .ok (.imul, 1) := by decide +kernel
theorem dX9_feed_52 : decode cX9_feed 52 = .ok (.iushr, 1) := by decide +kernel
theorem dX9_feed_53 : decode cX9_feed 53 = .ok (.sipush 255, 3) := by decide +kernel
theorem dX9_feed_56 : decode cX9_feed 56 = .ok (.iand, 1) := by decide +kernel
theorem dX9_feed_57 : decode cX9_feed 57 = .ok (.invokevirtual 167, 3) := by decide +kernel
theorem dX9_feed_60 : decode cX9_feed 60 = .ok (.iinc 3 (-1), 3) := by decide +kernel
theorem dX9_feed_63 : decode cX9_feed 63 = .ok (.goto (-27), 3) := by decide +kernel
theorem dX9_feed_66 : decode cX9_feed 66 = .ok (.aload_n 0, 1) := by decide +kernel
theorem dX9_feed_67 : decode cX9_feed 67 = .ok (.getfield 31, 3) := by decide +kernel
theorem dX9_feed_70 : decode cX9_feed 70 = .ok (.getfield 162, 3) := by decide +kernel
theorem dX9_feed_73 : decode cX9_feed 73 = .ok (.getfield 165, 3) := by decide +kernel
theorem dX9_feed_76 : decode cX9_feed 76 = .ok (.ireturn, 1) := by decide +kernel
theorem dX9_ring_0 : decode cX9_ring 0 = .ok (.aload_n 0, 1) := by decide +kernel
theorem dX9_ring_1 : decode cX9_ring 1 = .ok (.getfield 41, 3) := by decide +kernel
theorem dX9_ring_4 : decode cX9_ring 4 = .ok (.ifCond .lt 24, 3) := by decide +kernel
theorem dX9_ring_7 : decode cX9_ring 7 = .ok (.aload_n 0, 1) := by decide +kernel
theorem dX9_ring_8 : decode cX9_ring 8 = .ok (.getfield 41, 3) := by decide +kernel
theorem dX9_ring_11 : decode cX9_ring 11 = .ok (.bipush 6, 2) := by decide +kernel
theorem dX9_ring_13 : decode cX9_ring 13 = .ok (.if_icmp .ge 15, 3) := by decide +kernel
theorem dX9_ring_16 : decode cX9_ring 16 = .ok (.aload_n 0, 1) := by decide +kernel
theorem dX9_ring_17 : decode cX9_ring 17 = .ok (.getfield 41, 3) := by decide +kernel
theorem dX9_ring_20 : decode cX9_ring 20 = .ok (.aload_n 0, 1) := by decide +kernel
theorem dX9_ring_21 : decode cX9_ring 21 = .ok (.getfield 37, 3) := by decide +kernel
theorem dX9_ring_24 : decode cX9_ring 24 = .ok (.arraylength, 1) := by decide +kernel
theorem dX9_ring_25 : decode cX9_ring 25 = .ok (.if_icmp .lt 6, 3) := by decide +kernel
theorem dX9_ring_28 : decode cX9_ring 28 = .ok (.bipush (-4), 2) := by decide +kernel
theorem dX9_ring_30 : decode cX9_ring 30 = .ok (.ireturn, 1) := by decide +kernel
theorem dX9_ring_31 : decode cX9_ring 31 = .ok (.aload_n 0, 1) := by decide +kernel
theorem dX9_ring_32 : decode cX9_ring 32 = .ok (.getfield 37, 3) := by decide +kernel
theorem dX9_ring_35 : decode cX9_ring 35 = .ok (.aload_n 0, 1) := by decide +kernel
theorem dX9_ring_36 : decode cX9_ring 36 = .ok (.getfield 41, 3) := by decide +kernel
theorem dX9_ring_39 : decode cX9_ring 39 = .ok (.aaload, 1) := by decide +kernel
theorem dX9_ring_40 : decode cX9_ring 40 = .ok (.astore_n 1, 1) := by decide +kernel
theorem dX9_ring_41 : decode cX9_ring 41 = .ok (.aload_n 1, 1) := by decide +kernel
theorem dX9_ring_42 : decode cX9_ring 42 = .ok (.ifnonnull 6, 3) := by decide +kernel
theorem dX9_ring_45 : decode cX9_ring 45 = .ok (.bipush (-4), 2) := by decide +kernel
theorem dX9_ring_47 : decode cX9_ring 47 = .ok (.ireturn, 1) := by decide +kernel
theorem dX9_ring_48 : decode cX9_ring 48 = .ok (.aload_n 0, 1) := by decide +kernel
theorem dX9_ring_49 : decode cX9_ring 49 = .ok (.getfield 31, 3) := by decide +kernel
theorem dX9_ring_52 : decode cX9_ring 52 = .ok (.invokevirtual 170, 3) := by decide +kernel
theorem dX9_ring_55 : decode cX9_ring 55 = .ok (.istore_n 2, 1) := by decide +kernel
theorem dX9_ring_56 : decode cX9_ring 56 = .ok (.aload_n 0, 1) := by decide +kernel
theorem dX9_ring_57 : decode cX9_ring 57 = .ok (.getfield 31, 3) := by decide +kernel
theorem dX9_ring_60 : decode cX9_ring 60 = .ok (.getfield 162, 3) := by decide +kernel
theorem dX9_ring_63 : decode cX9_ring 63 = .ok (.invokevirtual 173, 3) := by decide +kernel
theorem dX9_ring_66 : decode cX9_ring 66 = .ok (.iload_n 2, 1) := by decide +kernel
theorem dX9_ring_67 : decode cX9_ring 67 = .ok (.iconst (-1), 1) := by decide +kernel
theorem dX9_ring_68 : decode cX9_ring 68 = .ok (.if_icmp .eq 8, 3) := by decide +kernel
theorem dX9_ring_71 : decode cX9_ring 71 = .ok (.bipush (-10), 2) := by decide +kernel
theorem dX9_ring_73 : decode cX9_ring 73 = .ok (.iload_n 2, 1) := by decide +kernel
theorem dX9_ring_74 : decode cX9_ring 74 = .ok (.isub, 1) := by decide +kernel
theorem dX9_ring_75 : decode cX9_ring 75 = .ok (.ireturn, 1) := by decide +kernel
theorem dX9_ring_76 : decode cX9_ring 76 = .ok (.aload_n 1, 1) := by decide +kernel
theorem dX9_ring_77 : decode cX9_ring 77 = .ok (.aload_n 0, 1) := by decide +kernel
theorem dX9_ring_78 : decode cX9_ring 78 = .ok (.getfield 31, 3) := by decide +kernel
theorem dX9_ring_81 : decode cX9_ring 81 = .ok (.getfield 176, 3) := by decide +kernel
theorem dX9_ring_84 : decode cX9_ring 84 = .ok (.invokevirtual 180, 3) := by decide +kernel
theorem dX9_ring_87 : decode cX9_ring 87 = .ok (.aload_n 0, 1) := by decide +kernel
theorem dX9_ring_88 : decode cX9_ring 88 = .ok (.getfield 12, 3) := by decide +kernel
theorem dX9_ring_91 : decode cX9_ring 91 = .ok (.aload_n 1, 1) := by decide +kernel
theorem dX9_ring_92 : decode cX9_ring 92 = .ok (.putfield 184, 3) := by decide +kernel
theorem dX9_ring_95 : decode cX9_ring 95 = .ok (.aload_n 0, 1) := by decide +kernel
theorem dX9_ring_96 : decode cX9_ring 96 = .ok (.dup, 1) := by decide +kernel
theorem dX9_ring_97 : decode cX9_ring 97 = .ok (.getfield 41, 3) := by decide +kernel
theorem dX9_ring_100 : decode cX9_ring 100 = .ok (.iconst 1, 1) := by decide +kernel
theorem dX9_ring_101 : decode cX9_ring 101 = .ok (.iadd, 1) := by decide +kernel
theorem dX9_ring_102 : decode cX9_ring 102 = .ok (.putfield 41, 3) := by decide +kernel
theorem dX9_ring_105 : decode cX9_ring 105 = .ok (.aload_n 0, 1) := by decide +kernel
theorem dX9_ring_106 : decode cX9_ring 106 = .ok (.getfield 41, 3) := by decide +kernel
theorem dX9_ring_109 : decode cX9_ring 109 = .ok (.iconst 1, 1) := by decide +kernel
theorem dX9_ring_110 : decode cX9_ring 110 = .ok (.isub, 1) := by decide +kernel
theorem dX9_ring_111 : decode cX9_ring 111 = .ok (.ireturn, 1) := by decide +kernel
theorem dX9_go_0 : decode cX9_go 0 = .ok (.iload_n 1, 1) := by decide +kernel
theorem dX9_go_1 : decode cX9_go 1 = .ok (.iconst 1, 1) := by decide +kernel
theorem dX9_go_2 : decode cX9_go 2 = .ok (.bipush 60, 2) := by decide +kernel
theorem dX9_go_4 : decode cX9_go 4 = .ok (.invokestatic 81, 3) := by decide +kernel
theorem dX9_go_7 : decode cX9_go 7 = .ok (.ifCond .ne 6, 3) := by decide +kernel
theorem dX9_go_10 : decode cX9_go 10 = .ok (.bipush (-2), 2) := by decide +kernel
theorem dX9_go_12 : decode cX9_go 12 = .ok (.ireturn, 1) := by decide +kernel
theorem dX9_go_13 : decode cX9_go 13 = .ok (.iconst 0, 1) := by decide +kernel
theorem dX9_go_14 : decode cX9_go 14 = .ok (.istore_n 2, 1) := by decide +kernel
theorem dX9_go_15 : decode cX9_go 15 = .ok (.iload_n 2, 1) := by decide +kernel
theorem dX9_go_16 : decode cX9_go 16 = .ok (.iload_n 1, 1) := by decide +kernel
theorem dX9_go_17 : decode cX9_go 17 = .ok (.if_icmp .ge 44, 3) := by decide +kernel
theorem dX9_go_20 : decode cX9_go 20 = .ok (.aload_n 0, 1) := by decide +kernel
theorem dX9_go_21 : decode cX9_go 21 = .ok (.getfield 12, 3) := by decide +kernel
theorem dX9_go_24 : decode cX9_go 24 = .ok (.invokevirtual 187, 3) := by decide +kernel
theorem dX9_go_27 : decode cX9_go 27 = .ok (.aload_n 0, 1) := by decide +kernel
theorem dX9_go_28 : decode cX9_go 28 = .ok (.getfield 12, 3) := by decide +kernel
theorem dX9_go_31 : decode cX9_go 31 = .ok (.invokevirtual 190, 3) := by decide +kernel
theorem dX9_go_34 : decode cX9_go 34 = .ok (.ifCond .eq 21, 3) := by decide +kernel
theorem dX9_go_37 : decode cX9_go 37 = .ok (.aload_n 0, 1) := by decide +kernel
theorem dX9_go_38 : decode cX9_go 38 = .ok (.getfield 12, 3) := by decide +kernel
theorem dX9_go_41 : decode cX9_go 41 = .ok (.getfield 118, 3) := by decide +kernel
theorem dX9_go_44 : decode cX9_go 44 = .ok (.aload_n 0, 1) := by decide +kernel
theorem dX9_go_45 : decode cX9_go 45 = .ok (.getfield 12, 3) := by decide +kernel
theorem dX9_go_48 : decode cX9_go 48 = .ok (.getfield 88, 3) := by decide +kernel
theorem dX9_go_51 : decode cX9_go 51 = .ok (.invokevirtual 194, 3) := by decide +kernel
theorem dX9_go_54 : decode cX9_go 54 = .ok (.ireturn, 1) := by decide +kernel
theorem dX9_go_55 : decode cX9_go 55 = .ok (.iinc 2 1, 3) := by decide +kernel
theorem dX9_go_58 : decode cX9_go 58 = .ok (.goto (-43), 3) := by decide +kernel
theorem dX9_go_61 : decode cX9_go 61 = .ok (.bipush (-5), 2) := by decide +kernel
theorem dX9_go_63 : decode cX9_go 63 = .ok (.ireturn, 1) := by decide +kernel
theorem dX9_safe_0 : decode cX9_safe 0 = .ok (.lconst 0, 1) := by decide +kernel
theorem dX9_safe_1 : decode cX9_safe 1 = .ok (.lstore_n 1, 1) := by decide +kernel
theorem dX9_safe_2 : decode cX9_safe 2 = .ok (.aload_n 0, 1) := by decide +kernel
theorem dX9_safe_3 : decode cX9_safe 3 = .ok (.getfield 21, 3) := by decide +kernel
theorem dX9_safe_6 : decode cX9_safe 6 = .ok (.aload_n 0, 1) := by decide +kernel
theorem dX9_safe_7 : decode cX9_safe 7 = .ok (.getfield 12, 3) := by decide +kernel
theorem dX9_safe_10 : decode cX9_safe 10 = .ok (.invokevirtual 197, 3) := by decide +kernel
theorem dX9_safe_13 : decode cX9_safe 13 = .ok (.iconst 0, 1) := by decide +kernel
theorem dX9_safe_14 : decode cX9_safe 14 = .ok (.istore_n 3, 1) := by decide +kernel
theorem dX9_safe_15 : decode cX9_safe 15 = .ok (.iload_n 3, 1) := by decide +kernel
theorem dX9_safe_16 : decode cX9_safe 16 = .ok (.bipush 36, 2) := by decide +kernel
theorem dX9_safe_18 : decode cX9_safe 18 = .ok (.if_icmp .ge 44, 3) := by decide +kernel
theorem dX9_safe_21 : decode cX9_safe 21 = .ok (.aload_n 0, 1) := by decide +kernel
theorem dX9_safe_22 : decode cX9_safe 22 = .ok (.getfield 21, 3) := by decide +kernel
theorem dX9_safe_25 : decode cX9_safe 25 = .ok (.iload_n 3, 1) := by decide +kernel
theorem dX9_safe_26 : decode cX9_safe 26 = .ok (.putfield 88, 3) := by decide +kernel
theorem dX9_safe_29 : decode cX9_safe 29 = .ok (.aload_n 0, 1) := by decide +kernel
theorem dX9_safe_30 : decode cX9_safe 30 = .ok (.getfield 12, 3) := by decide +kernel
theorem dX9_safe_33 : decode cX9_safe 33 = .ok (.iload_n 3, 1) := by decide +kernel
theorem dX9_safe_34 : decode cX9_safe 34 = .ok (.invokevirtual 85, 3) := by decide +kernel
theorem dX9_safe_37 : decode cX9_safe 37 = .ok (.ifCond .ne 19, 3) := by decide +kernel
theorem dX9_safe_40 : decode cX9_safe 40 = .ok (.aload_n 0, 1) := by decide +kernel
theorem dX9_safe_41 : decode cX9_safe 41 = .ok (.getfield 21, 3) := by decide +kernel
theorem dX9_safe_44 : decode cX9_safe 44 = .ok (.invokevirtual 200, 3) := by decide +kernel
theorem dX9_safe_47 : decode cX9_safe 47 = .ok (.ifCond .ne 9, 3) := by decide +kernel
theorem dX9_safe_50 : decode cX9_safe 50 = .ok (.lload_n 1, 1) := by decide +kernel
theorem dX9_safe_51 : decode cX9_safe 51 = .ok (.lconst 1, 1) := by decide +kernel
theorem dX9_safe_52 : decode cX9_safe 52 = .ok (.iload_n 3, 1) := by decide +kernel
theorem dX9_safe_53 : decode cX9_safe 53 = .ok (.lshl, 1) := by decide +kernel
theorem dX9_safe_54 : decode cX9_safe 54 = .ok (.lor, 1) := by decide +kernel
theorem dX9_safe_55 : decode cX9_safe 55 = .ok (.lstore_n 1, 1) := by decide +kernel
theorem dX9_safe_56 : decode cX9_safe 56 = .ok (.iinc 3 1, 3) := by decide +kernel
theorem dX9_safe_59 : decode cX9_safe 59 = .ok (.goto (-44), 3) := by decide +kernel
theorem dX9_safe_62 : decode cX9_safe 62 = .ok (.lload_n 1, 1) := by decide +kernel
theorem dX9_safe_63 : decode cX9_safe 63 = .ok (.lreturn, 1) := by decide +kernel
theorem dX9_from_0 : decode cX9_from 0 = .ok (.aload_n 0, 1) := by decide +kernel
theorem dX9_from_1 : decode cX9_from 1 = .ok (.getfield 12, 3) := by decide +kernel
theorem dX9_from_4 : decode cX9_from 4 = .ok (.iload_n 1, 1) := by decide +kernel
theorem dX9_from_5 : decode cX9_from 5 = .ok (.invokevirtual 102, 3) := by decide +kernel
theorem dX9_from_8 : decode cX9_from 8 = .ok (.ifCond .ne 5, 3) := by decide +kernel
theorem dX9_from_11 : decode cX9_from 11 = .ok (.iconst (-1), 1) := by decide +kernel
theorem dX9_from_12 : decode cX9_from 12 = .ok (.ireturn, 1) := by decide +kernel
theorem dX9_from_13 : decode cX9_from 13 = .ok (.aload_n 0, 1) := by decide +kernel
theorem dX9_from_14 : decode cX9_from 14 = .ok (.getfield 21, 3) := by decide +kernel
theorem dX9_from_17 : decode cX9_from 17 = .ok (.aload_n 0, 1) := by decide +kernel
theorem dX9_from_18 : decode cX9_from 18 = .ok (.getfield 12, 3) := by decide +kernel
theorem dX9_from_21 : decode cX9_from 21 = .ok (.invokevirtual 197, 3) := by decide +kernel
theorem dX9_from_24 : decode cX9_from 24 = .ok (.iconst 0, 1) := by decide +kernel
theorem dX9_from_25 : decode cX9_from 25 = .ok (.istore_n 2, 1) := by decide +kernel
theorem dX9_from_26 : decode cX9_from 26 = .ok (.iload_n 2, 1) := by decide +kernel
theorem dX9_from_27 : decode cX9_from 27 = .ok (.bipush 36, 2) := by decide +kernel
theorem dX9_from_29 : decode cX9_from 29 = .ok (.if_icmp .ge 41, 3) := by decide +kernel
theorem dX9_from_32 : decode cX9_from 32 = .ok (.aload_n 0, 1) := by decide +kernel
theorem dX9_from_33 : decode cX9_from 33 = .ok (.getfield 21, 3) := by decide +kernel
theorem dX9_from_36 : decode cX9_from 36 = .ok (.iload_n 2, 1) := by decide +kernel
theorem dX9_from_37 : decode cX9_from 37 = .ok (.putfield 88, 3) := by decide +kernel
theorem dX9_from_40 : decode cX9_from 40 = .ok (.aload_n 0, 1) := by decide +kernel
theorem dX9_from_41 : decode cX9_from 41 = .ok (.getfield 12, 3) := by decide +kernel
theorem dX9_from_44 : decode cX9_from 44 = .ok (.iload_n 2, 1) := by decide +kernel
theorem dX9_from_45 : decode cX9_from 45 = .ok (.invokevirtual 85, 3) := by decide +kernel
theorem dX9_from_48 : decode cX9_from 48 = .ok (.ifCond .ne 16, 3) := by decide +kernel
theorem dX9_from_51 : decode cX9_from 51 = .ok (.aload_n 0, 1) := by decide +kernel
theorem dX9_from_52 : decode cX9_from 52 = .ok (.getfield 21, 3) := by decide +kernel
theorem dX9_from_55 : decode cX9_from 55 = .ok (.iload_n 1, 1) := by decide +kernel
theorem dX9_from_56 : decode cX9_from 56 = .ok (.invokevirtual 203, 3) := by decide +kernel
theorem dX9_from_59 : decode cX9_from 59 = .ok (.ifCond .eq 5, 3) := by decide +kernel
theorem dX9_from_62 : decode cX9_from 62 = .ok (.iload_n 2, 1) := by decide +kernel
theorem dX9_from_63 : decode cX9_from 63 = .ok (.ireturn, 1) := by decide +kernel
theorem dX9_from_64 : decode cX9_from 64 = .ok (.iinc 2 1, 3) := by decide +kernel
theorem dX9_from_67 : decode cX9_from 67 = .ok (.goto (-41), 3) := by decide +kernel
theorem dX9_from_70 : decode cX9_from 70 = .ok (.bipush (-5), 2) := by decide +kernel
theorem dX9_from_72 : decode cX9_from 72 = .ok (.ireturn, 1) := by decide +kernel
theorem dX9_walk_0 : decode cX9_walk 0 = .ok (.aload_n 0, 1) := by decide +kernel
theorem dX9_walk_1 : decode cX9_walk 1 = .ok (.getfield 12, 3) := by decide +kernel
theorem dX9_walk_4 : decode cX9_walk 4 = .ok (.getfield 206, 3) := by decide +kernel
theorem dX9_walk_7 : decode cX9_walk 7 = .ok (.iload_n 1, 1) := by decide +kernel
theorem dX9_walk_8 : decode cX9_walk 8 = .ok (.bipush 12, 2) := by decide +kernel
theorem dX9_walk_10 : decode cX9_walk 10 = .ok (.invokestatic 209, 3) := by decide +kernel
theorem dX9_walk_13 : decode cX9_walk 13 = .ok (.ireturn, 1) := by decide +kernel
theorem dX9_comeTo_0 : decode cX9_comeTo 0 = .ok (.iload_n 1, 1) := by decide +kernel
theorem dX9_comeTo_1 : decode cX9_comeTo 1 = .ok (.iconst (-1), 1) := by decide +kernel
theorem dX9_comeTo_2 : decode cX9_comeTo 2 = .ok (.if_icmp .ne 9, 3) := by decide +kernel
theorem dX9_comeTo_5 : decode cX9_comeTo 5 = .ok (.aload_n 0, 1) := by decide +kernel
theorem dX9_comeTo_6 : decode cX9_comeTo 6 = .ok (.invokevirtual 173, 3) := by decide +kernel
theorem dX9_comeTo_9 : decode cX9_comeTo 9 = .ok (.iconst 0, 1) := by decide +kernel
theorem dX9_comeTo_10 : decode cX9_comeTo 10 = .ok (.ireturn, 1) := by decide +kernel
theorem dX9_comeTo_11 : decode cX9_comeTo 11 = .ok (.iload_n 1, 1) := by decide +kernel
theorem dX9_comeTo_12 : decode cX9_comeTo 12 = .ok (.invokestatic 78, 3) := by decide +kernel
theorem dX9_comeTo_15 : decode cX9_comeTo 15 = .ok (.ifCond .ne 5, 3) := by decide +kernel
theorem dX9_comeTo_18 : decode cX9_comeTo 18 = .ok (.iconst (-1), 1) := by decide +kernel
theorem dX9_comeTo_19 : decode cX9_comeTo 19 = .ok (.ireturn, 1) := by decide +kernel
theorem dX9_comeTo_20 : decode cX9_comeTo 20 = .ok (.aload_n 0, 1) := by decide +kernel
theorem dX9_comeTo_21 : decode cX9_comeTo 21 = .ok (.getfield 165, 3) := by decide +kernel
theorem dX9_comeTo_24 : decode cX9_comeTo 24 = .ok (.iload_n 2, 1) := by decide +kernel
theorem dX9_comeTo_25 : decode cX9_comeTo 25 = .ok (.if_icmp .lt 6, 3) := by decide +kernel
theorem dX9_comeTo_28 : decode cX9_comeTo 28 = .ok (.bipush (-4), 2) := by decide +kernel
theorem dX9_comeTo_30 : decode cX9_comeTo 30 = .ok (.ireturn, 1) := by decide +kernel
theorem dX9_comeTo_31 : decode cX9_comeTo 31 = .ok (.aload_n 0, 1) := by decide +kernel
theorem dX9_comeTo_32 : decode cX9_comeTo 32 = .ok (.iload_n 1, 1) := by decide +kernel
theorem dX9_comeTo_33 : decode cX9_comeTo 33 = .ok (.invokevirtual 167, 3) := by decide +kernel
theorem dX9_comeTo_36 : decode cX9_comeTo 36 = .ok (.aload_n 0, 1) := by decide +kernel
theorem dX9_comeTo_37 : decode cX9_comeTo 37 = .ok (.getfield 165, 3) := by decide +kernel
theorem dX9_comeTo_40 : decode cX9_comeTo 40 = .ok (.ireturn, 1) := by decide +kernel
theorem dX9_gone_0 : decode cX9_gone 0 = .ok (.aload_n 0, 1) := by decide +kernel
theorem dX9_gone_1 : decode cX9_gone 1 = .ok (.getfield 12, 3) := by decide +kernel
theorem dX9_gone_4 : decode cX9_gone 4 = .ok (.iload_n 1, 1) := by decide +kernel
theorem dX9_gone_5 : decode cX9_gone 5 = .ok (.invokevirtual 102, 3) := by decide +kernel
theorem dX9_gone_8 : decode cX9_gone 8 = .ok (.ifCond .ne 16, 3) := by decide +kernel
theorem dX9_gone_11 : decode cX9_gone 11 = .ok (.iload_n 1, 1) := by decide +kernel
theorem dX9_gone_12 : decode cX9_gone 12 = .ok (.bipush 10, 2) := by decide +kernel
theorem dX9_gone_14 : decode cX9_gone 14 = .ok (.bipush 12, 2) := by decide +kernel
theorem dX9_gone_16 : decode cX9_gone 16 = .ok (.invokestatic 81, 3) := by decide +kernel
theorem dX9_gone_19 : decode cX9_gone 19 = .ok (.ifCond .ne 5, 3) := by decide +kernel
theorem dX9_gone_22 : decode cX9_gone 22 = .ok (.iconst (-1), 1) := by decide +kernel
theorem dX9_gone_23 : decode cX9_gone 23 = .ok (.ireturn, 1) := by decide +kernel
theorem dX9_gone_24 : decode cX9_gone 24 = .ok (.bipush (-5), 2) := by decide +kernel
theorem dX9_gone_26 : decode cX9_gone 26 = .ok (.istore_n 2, 1) := by decide +kernel
theorem dX9_gone_27 : decode cX9_gone 27 = .ok (.bipush (-5), 2) := by decide +kernel
theorem dX9_gone_29 : decode cX9_gone 29 = .ok (.istore_n 3, 1) := by decide +kernel
theorem dX9_gone_30 : decode cX9_gone 30 = .ok (.aload_n 0, 1) := by decide +kernel
theorem dX9_gone_31 : decode cX9_gone 31 = .ok (.getfield 21, 3) := by decide +kernel
theorem dX9_gone_34 : decode cX9_gone 34 = .ok (.aload_n 0, 1) := by decide +kernel
theorem dX9_gone_35 : decode cX9_gone 35 = .ok (.getfield 12, 3) := by decide +kernel
theorem dX9_gone_38 : decode cX9_gone 38 = .ok (.invokevirtual 197, 3) := by decide +kernel
theorem dX9_gone_41 : decode cX9_gone 41 = .ok (.iconst 0, 1) := by decide +kernel
theorem dX9_gone_42 : decode cX9_gone 42 = .ok (.istore 4, 2) := by decide +kernel
theorem dX9_gone_44 : decode cX9_gone 44 = .ok (.iload 4, 2) := by decide +kernel
theorem dX9_gone_46 : decode cX9_gone 46 = .ok (.aload_n 0, 1) := by decide +kernel
theorem dX9_gone_47 : decode cX9_gone 47 = .ok (.getfield 12, 3) := by decide +kernel
theorem dX9_gone_50 : decode cX9_gone 50 = .ok (.getfield 206, 3) := by decide +kernel
theorem dX9_gone_53 : decode cX9_gone 53 = .ok (.getfield 165, 3) := by decide +kernel
theorem dX9_gone_56 : decode cX9_gone 56 = .ok (.if_icmp .ge 70, 3) := by decide +kernel
theorem dX9_gone_59 : decode cX9_gone 59 = .ok (.aload_n 0, 1) := by decide +kernel
theorem dX9_gone_60 : decode cX9_gone 60 = .ok (.getfield 21, 3) := by decide +kernel
theorem dX9_gone_63 : decode cX9_gone 63 = .ok (.aload_n 0, 1) := by decide +kernel
theorem dX9_gone_64 : decode cX9_gone 64 = .ok (.getfield 12, 3) := by decide +kernel
theorem dX9_gone_67 : decode cX9_gone 67 = .ok (.getfield 206, 3) := by decide +kernel
theorem dX9_gone_70 : decode cX9_gone 70 = .ok (.iload 4, 2) := by decide +kernel
theorem dX9_gone_72 : decode cX9_gone 72 = .ok (.invokevirtual 109, 3) := by decide +kernel
theorem dX9_gone_75 : decode cX9_gone 75 = .ok (.invokevirtual 213, 3) := by decide +kernel
theorem dX9_gone_78 : decode cX9_gone 78 = .ok (.istore 5, 2) := by decide +kernel
theorem dX9_gone_80 : decode cX9_gone 80 = .ok (.iload 5, 2) := by decide +kernel
theorem dX9_gone_82 : decode cX9_gone 82 = .ok (.ifCond .ne 12, 3) := by decide +kernel
theorem dX9_gone_85 : decode cX9_gone 85 = .ok (.iload_n 3, 1) := by decide +kernel
theorem dX9_gone_86 : decode cX9_gone 86 = .ok (.bipush (-5), 2) := by decide +kernel
theorem dX9_gone_88 : decode cX9_gone 88 = .ok (.if_icmp .ne 6, 3) := by decide +kernel
theorem dX9_gone_91 : decode cX9_gone 91 = .ok (.iload 4, 2) := by decide +kernel
theorem dX9_gone_93 : decode cX9_gone 93 = .ok (.istore_n 3, 1) := by decide +kernel
theorem dX9_gone_94 : decode cX9_gone 94 = .ok (.aload_n 0, 1) := by decide +kernel
theorem dX9_gone_95 : decode cX9_gone 95 = .ok (.getfield 21, 3) := by decide +kernel
theorem dX9_gone_98 : decode cX9_gone 98 = .ok (.invokevirtual 187, 3) := by decide +kernel
theorem dX9_gone_101 : decode cX9_gone 101 = .ok (.iload_n 2, 1) := by decide +kernel
theorem dX9_gone_102 : decode cX9_gone 102 = .ok (.bipush (-5), 2) := by decide +kernel
theorem dX9_gone_104 : decode cX9_gone 104 = .ok (.if_icmp .ne 16, 3) := by decide +kernel
theorem dX9_gone_107 : decode cX9_gone 107 = .ok (.aload_n 0, 1) := by decide +kernel
theorem dX9_gone_108 : decode cX9_gone 108 = .ok (.getfield 21, 3) := by decide +kernel
theorem dX9_gone_111 : decode cX9_gone 111 = .ok (.invokevirtual 190, 3) := by decide +kernel
theorem dX9_gone_114 : decode cX9_gone 114 = .ok (.ifCond .eq 6, 3) := by decide +kernel
theorem dX9_gone_117 : decode cX9_gone 117 = .ok (.iload 4, 2) := by decide +kernel
theorem dX9_gone_119 : decode cX9_gone 119 = .ok (.istore_n 2, 1) := by decide +kernel
theorem dX9_gone_120 : decode cX9_gone 120 = .ok (.iinc 4 1, 3) := by decide +kernel
theorem dX9_gone_123 : decode cX9_gone 123 = .ok (.goto (-79), 3) := by decide +kernel
theorem dX9_gone_126 : decode cX9_gone 126 = .ok (.iload_n 1, 1) := by decide +kernel
theorem dX9_gone_127 : decode cX9_gone 127 = .ok (.tableswitch 37 10 12 #[25, 27, 29], 25) := by decide +kernel
