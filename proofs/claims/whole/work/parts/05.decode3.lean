theorem dX10_beast_65 : decode cX10_beast 65 = .ok (.invokevirtual 243, 3) := by decide +kernel
theorem dX10_beast_68 : decode cX10_beast 68 = .ok (.ifCond .eq 6, 3) := by decide +kernel
theorem dX10_beast_71 : decode cX10_beast 71 = .ok (.bipush (-3), 2) := by decide +kernel
theorem dX10_beast_73 : decode cX10_beast 73 = .ok (.ireturn, 1) := by decide +kernel
theorem dX10_beast_74 : decode cX10_beast 74 = .ok (.aload_n 0, 1) := by decide +kernel
theorem dX10_beast_75 : decode cX10_beast 75 = .ok (.getfield 7, 3) := by decide +kernel
theorem dX10_beast_78 : decode cX10_beast 78 = .ok (.bipush 6, 2) := by decide +kernel
theorem dX10_beast_80 : decode cX10_beast 80 = .ok (.if_icmp .ne 6, 3) := by decide +kernel
theorem dX10_beast_83 : decode cX10_beast 83 = .ok (.bipush (-4), 2) := by decide +kernel
theorem dX10_beast_85 : decode cX10_beast 85 = .ok (.ireturn, 1) := by decide +kernel
theorem dX10_beast_86 : decode cX10_beast 86 = .ok (.aload_n 0, 1) := by decide +kernel
theorem dX10_beast_87 : decode cX10_beast 87 = .ok (.getfield 22, 3) := by decide +kernel
theorem dX10_beast_90 : decode cX10_beast 90 = .ok (.aload_n 0, 1) := by decide +kernel
theorem dX10_beast_91 : decode cX10_beast 91 = .ok (.getfield 7, 3) := by decide +kernel
theorem dX10_beast_94 : decode cX10_beast 94 = .ok (.iload_n 1, 1) := by decide +kernel
theorem dX10_beast_95 : decode cX10_beast 95 = .ok (.iastore, 1) := by decide +kernel
theorem dX10_beast_96 : decode cX10_beast 96 = .ok (.aload_n 0, 1) := by decide +kernel
theorem dX10_beast_97 : decode cX10_beast 97 = .ok (.getfield 26, 3) := by decide +kernel
theorem dX10_beast_100 : decode cX10_beast 100 = .ok (.aload_n 0, 1) := by decide +kernel
theorem dX10_beast_101 : decode cX10_beast 101 = .ok (.getfield 7, 3) := by decide +kernel
theorem dX10_beast_104 : decode cX10_beast 104 = .ok (.iload_n 2, 1) := by decide +kernel
theorem dX10_beast_105 : decode cX10_beast 105 = .ok (.iastore, 1) := by decide +kernel
theorem dX10_beast_106 : decode cX10_beast 106 = .ok (.aload_n 0, 1) := by decide +kernel
theorem dX10_beast_107 : decode cX10_beast 107 = .ok (.getfield 29, 3) := by decide +kernel
theorem dX10_beast_110 : decode cX10_beast 110 = .ok (.aload_n 0, 1) := by decide +kernel
theorem dX10_beast_111 : decode cX10_beast 111 = .ok (.getfield 7, 3) := by decide +kernel
theorem dX10_beast_114 : decode cX10_beast 114 = .ok (.iload_n 3, 1) := by decide +kernel
theorem dX10_beast_115 : decode cX10_beast 115 = .ok (.iastore, 1) := by decide +kernel
theorem dX10_beast_116 : decode cX10_beast 116 = .ok (.aload_n 0, 1) := by decide +kernel
theorem dX10_beast_117 : decode cX10_beast 117 = .ok (.getfield 32, 3) := by decide +kernel
theorem dX10_beast_120 : decode cX10_beast 120 = .ok (.aload_n 0, 1) := by decide +kernel
theorem dX10_beast_121 : decode cX10_beast 121 = .ok (.getfield 7, 3) := by decide +kernel
theorem dX10_beast_124 : decode cX10_beast 124 = .ok (.iload_n 3, 1) := by decide +kernel
theorem dX10_beast_125 : decode cX10_beast 125 = .ok (.iastore, 1) := by decide +kernel
theorem dX10_beast_126 : decode cX10_beast 126 = .ok (.aload_n 0, 1) := by decide +kernel
theorem dX10_beast_127 : decode cX10_beast 127 = .ok (.getfield 35, 3) := by decide +kernel
theorem dX10_beast_130 : decode cX10_beast 130 = .ok (.aload_n 0, 1) := by decide +kernel
theorem dX10_beast_131 : decode cX10_beast 131 = .ok (.getfield 7, 3) := by decide +kernel
theorem dX10_beast_134 : decode cX10_beast 134 = .ok (.iload 4, 2) := by decide +kernel
theorem dX10_beast_136 : decode cX10_beast 136 = .ok (.iastore, 1) := by decide +kernel
theorem dX10_beast_137 : decode cX10_beast 137 = .ok (.aload_n 0, 1) := by decide +kernel
theorem dX10_beast_138 : decode cX10_beast 138 = .ok (.getfield 38, 3) := by decide +kernel
theorem dX10_beast_141 : decode cX10_beast 141 = .ok (.aload_n 0, 1) := by decide +kernel
theorem dX10_beast_142 : decode cX10_beast 142 = .ok (.getfield 7, 3) := by decide +kernel
theorem dX10_beast_145 : decode cX10_beast 145 = .ok (.iconst 0, 1) := by decide +kernel
theorem dX10_beast_146 : decode cX10_beast 146 = .ok (.iastore, 1) := by decide +kernel
theorem dX10_beast_147 : decode cX10_beast 147 = .ok (.iconst 0, 1) := by decide +kernel
theorem dX10_beast_148 : decode cX10_beast 148 = .ok (.istore 5, 2) := by decide +kernel
theorem dX10_beast_150 : decode cX10_beast 150 = .ok (.iload 5, 2) := by decide +kernel
theorem dX10_beast_152 : decode cX10_beast 152 = .ok (.aload_n 0, 1) := by decide +kernel
theorem dX10_beast_153 : decode cX10_beast 153 = .ok (.getfield 7, 3) := by decide +kernel
theorem dX10_beast_156 : decode cX10_beast 156 = .ok (.if_icmp .ge 27, 3) := by decide +kernel
theorem dX10_beast_159 : decode cX10_beast 159 = .ok (.aload_n 0, 1) := by decide +kernel
theorem dX10_beast_160 : decode cX10_beast 160 = .ok (.getfield 38, 3) := by decide +kernel
theorem dX10_beast_163 : decode cX10_beast 163 = .ok (.iload 5, 2) := by decide +kernel
theorem dX10_beast_165 : decode cX10_beast 165 = .ok (.dup2, 1) := by decide +kernel
theorem dX10_beast_166 : decode cX10_beast 166 = .ok (.iaload, 1) := by decide +kernel
theorem dX10_beast_167 : decode cX10_beast 167 = .ok (.iconst 1, 1) := by decide +kernel
theorem dX10_beast_168 : decode cX10_beast 168 = .ok (.aload_n 0, 1) := by decide +kernel
theorem dX10_beast_169 : decode cX10_beast 169 = .ok (.getfield 7, 3) := by decide +kernel
theorem dX10_beast_172 : decode cX10_beast 172 = .ok (.ishl, 1) := by decide +kernel
theorem dX10_beast_173 : decode cX10_beast 173 = .ok (.iconst (-1), 1) := by decide +kernel
theorem dX10_beast_174 : decode cX10_beast 174 = .ok (.ixor, 1) := by decide +kernel
theorem dX10_beast_175 : decode cX10_beast 175 = .ok (.iand, 1) := by decide +kernel
theorem dX10_beast_176 : decode cX10_beast 176 = .ok (.iastore, 1) := by decide +kernel
theorem dX10_beast_177 : decode cX10_beast 177 = .ok (.iinc 5 1, 3) := by decide +kernel
theorem dX10_beast_180 : decode cX10_beast 180 = .ok (.goto (-30), 3) := by decide +kernel
theorem dX10_beast_183 : decode cX10_beast 183 = .ok (.aload_n 0, 1) := by decide +kernel
theorem dX10_beast_184 : decode cX10_beast 184 = .ok (.dup, 1) := by decide +kernel
theorem dX10_beast_185 : decode cX10_beast 185 = .ok (.getfield 7, 3) := by decide +kernel
theorem dX10_beast_188 : decode cX10_beast 188 = .ok (.iconst 1, 1) := by decide +kernel
theorem dX10_beast_189 : decode cX10_beast 189 = .ok (.iadd, 1) := by decide +kernel
theorem dX10_beast_190 : decode cX10_beast 190 = .ok (.putfield 7, 3) := by decide +kernel
theorem dX10_beast_193 : decode cX10_beast 193 = .ok (.aload_n 0, 1) := by decide +kernel
theorem dX10_beast_194 : decode cX10_beast 194 = .ok (.getfield 7, 3) := by decide +kernel
theorem dX10_beast_197 : decode cX10_beast 197 = .ok (.iconst 1, 1) := by decide +kernel
theorem dX10_beast_198 : decode cX10_beast 198 = .ok (.isub, 1) := by decide +kernel
theorem dX10_beast_199 : decode cX10_beast 199 = .ok (.ireturn, 1) := by decide +kernel
theorem dX10_set_0 : decode cX10_set 0 = .ok (.aload_n 0, 1) := by decide +kernel
theorem dX10_set_1 : decode cX10_set 1 = .ok (.iload_n 1, 1) := by decide +kernel
theorem dX10_set_2 : decode cX10_set 2 = .ok (.invokevirtual 246, 3) := by decide +kernel
theorem dX10_set_5 : decode cX10_set 5 = .ok (.ifCond .eq 13, 3) := by decide +kernel
theorem dX10_set_8 : decode cX10_set 8 = .ok (.aload_n 0, 1) := by decide +kernel
theorem dX10_set_9 : decode cX10_set 9 = .ok (.iload_n 2, 1) := by decide +kernel
theorem dX10_set_10 : decode cX10_set 10 = .ok (.iconst 0, 1) := by decide +kernel
theorem dX10_set_11 : decode cX10_set 11 = .ok (.iconst 1, 1) := by decide +kernel
theorem dX10_set_12 : decode cX10_set 12 = .ok (.invokevirtual 231, 3) := by decide +kernel
theorem dX10_set_15 : decode cX10_set 15 = .ok (.ifCond .ne 5, 3) := by decide +kernel
theorem dX10_set_18 : decode cX10_set 18 = .ok (.iconst (-1), 1) := by decide +kernel
theorem dX10_set_19 : decode cX10_set 19 = .ok (.ireturn, 1) := by decide +kernel
theorem dX10_set_20 : decode cX10_set 20 = .ok (.aload_n 0, 1) := by decide +kernel
theorem dX10_set_21 : decode cX10_set 21 = .ok (.iload_n 3, 1) := by decide +kernel
theorem dX10_set_22 : decode cX10_set 22 = .ok (.iconst 0, 1) := by decide +kernel
theorem dX10_set_23 : decode cX10_set 23 = .ok (.iload_n 2, 1) := by decide +kernel
theorem dX10_set_24 : decode cX10_set 24 = .ok (.ifCond .ne 8, 3) := by decide +kernel
theorem dX10_set_27 : decode cX10_set 27 = .ok (.bipush 35, 2) := by decide +kernel
theorem dX10_set_29 : decode cX10_set 29 = .ok (.goto 5, 3) := by decide +kernel
theorem dX10_set_32 : decode cX10_set 32 = .ok (.bipush 9, 2) := by decide +kernel
theorem dX10_set_34 : decode cX10_set 34 = .ok (.invokevirtual 231, 3) := by decide +kernel
theorem dX10_set_37 : decode cX10_set 37 = .ok (.ifCond .ne 6, 3) := by decide +kernel
theorem dX10_set_40 : decode cX10_set 40 = .ok (.bipush (-2), 2) := by decide +kernel
theorem dX10_set_42 : decode cX10_set 42 = .ok (.ireturn, 1) := by decide +kernel
theorem dX10_set_43 : decode cX10_set 43 = .ok (.iconst 0, 1) := by decide +kernel
theorem dX10_set_44 : decode cX10_set 44 = .ok (.istore 4, 2) := by decide +kernel
theorem dX10_set_46 : decode cX10_set 46 = .ok (.iload 4, 2) := by decide +kernel
theorem dX10_set_48 : decode cX10_set 48 = .ok (.aload_n 0, 1) := by decide +kernel
theorem dX10_set_49 : decode cX10_set 49 = .ok (.getfield 7, 3) := by decide +kernel
theorem dX10_set_52 : decode cX10_set 52 = .ok (.if_icmp .ge 33, 3) := by decide +kernel
theorem dX10_set_55 : decode cX10_set 55 = .ok (.iload_n 2, 1) := by decide +kernel
theorem dX10_set_56 : decode cX10_set 56 = .ok (.ifCond .ne 29, 3) := by decide +kernel
theorem dX10_set_59 : decode cX10_set 59 = .ok (.iload 4, 2) := by decide +kernel
theorem dX10_set_61 : decode cX10_set 61 = .ok (.iload_n 1, 1) := by decide +kernel
theorem dX10_set_62 : decode cX10_set 62 = .ok (.if_icmp .eq 17, 3) := by decide +kernel
theorem dX10_set_65 : decode cX10_set 65 = .ok (.aload_n 0, 1) := by decide +kernel
theorem dX10_set_66 : decode cX10_set 66 = .ok (.getfield 32, 3) := by decide +kernel
theorem dX10_set_69 : decode cX10_set 69 = .ok (.iload 4, 2) := by decide +kernel
theorem dX10_set_71 : decode cX10_set 71 = .ok (.iaload, 1) := by decide +kernel
theorem dX10_set_72 : decode cX10_set 72 = .ok (.iload_n 3, 1) := by decide +kernel
theorem dX10_set_73 : decode cX10_set 73 = .ok (.if_icmp .ne 6, 3) := by decide +kernel
theorem dX10_set_76 : decode cX10_set 76 = .ok (.bipush (-3), 2) := by decide +kernel
theorem dX10_set_78 : decode cX10_set 78 = .ok (.ireturn, 1) := by decide +kernel
theorem dX10_set_79 : decode cX10_set 79 = .ok (.iinc 4 1, 3) := by decide +kernel
theorem dX10_set_82 : decode cX10_set 82 = .ok (.goto (-36), 3) := by decide +kernel
theorem dX10_set_85 : decode cX10_set 85 = .ok (.iload_n 2, 1) := by decide +kernel
theorem dX10_set_86 : decode cX10_set 86 = .ok (.ifCond .ne 12, 3) := by decide +kernel
theorem dX10_set_89 : decode cX10_set 89 = .ok (.aload_n 0, 1) := by decide +kernel
theorem dX10_set_90 : decode cX10_set 90 = .ok (.getfield 32, 3) := by decide +kernel
theorem dX10_set_93 : decode cX10_set 93 = .ok (.iload_n 1, 1) := by decide +kernel
theorem dX10_set_94 : decode cX10_set 94 = .ok (.iaload, 1) := by decide +kernel
theorem dX10_set_95 : decode cX10_set 95 = .ok (.goto 9, 3) := by decide +kernel
theorem dX10_set_98 : decode cX10_set 98 = .ok (.aload_n 0, 1) := by decide +kernel
theorem dX10_set_99 : decode cX10_set 99 = .ok (.getfield 35, 3) := by decide +kernel
theorem dX10_set_102 : decode cX10_set 102 = .ok (.iload_n 1, 1) := by decide +kernel
theorem dX10_set_103 : decode cX10_set 103 = .ok (.iaload, 1) := by decide +kernel
theorem dX10_set_104 : decode cX10_set 104 = .ok (.istore 4, 2) := by decide +kernel
theorem dX10_set_106 : decode cX10_set 106 = .ok (.iload_n 2, 1) := by decide +kernel
theorem dX10_set_107 : decode cX10_set 107 = .ok (.ifCond .ne 13, 3) := by decide +kernel
theorem dX10_set_110 : decode cX10_set 110 = .ok (.aload_n 0, 1) := by decide +kernel
theorem dX10_set_111 : decode cX10_set 111 = .ok (.getfield 32, 3) := by decide +kernel
theorem dX10_set_114 : decode cX10_set 114 = .ok (.iload_n 1, 1) := by decide +kernel
theorem dX10_set_115 : decode cX10_set 115 = .ok (.iload_n 3, 1) := by decide +kernel
theorem dX10_set_116 : decode cX10_set 116 = .ok (.iastore, 1) := by decide +kernel
theorem dX10_set_117 : decode cX10_set 117 = .ok (.goto 10, 3) := by decide +kernel
theorem dX10_set_120 : decode cX10_set 120 = .ok (.aload_n 0, 1) := by decide +kernel
theorem dX10_set_121 : decode cX10_set 121 = .ok (.getfield 35, 3) := by decide +kernel
theorem dX10_set_124 : decode cX10_set 124 = .ok (.iload_n 1, 1) := by decide +kernel
theorem dX10_set_125 : decode cX10_set 125 = .ok (.iload_n 3, 1) := by decide +kernel
theorem dX10_set_126 : decode cX10_set 126 = .ok (.iastore, 1) := by decide +kernel
theorem dX10_set_127 : decode cX10_set 127 = .ok (.iload 4, 2) := by decide +kernel
theorem dX10_set_129 : decode cX10_set 129 = .ok (.ireturn, 1) := by decide +kernel
theorem dX10_enemies_0 : decode cX10_enemies 0 = .ok (.aload_n 0, 1) := by decide +kernel
theorem dX10_enemies_1 : decode cX10_enemies 1 = .ok (.iload_n 1, 1) := by decide +kernel
theorem dX10_enemies_2 : decode cX10_enemies 2 = .ok (.invokevirtual 246, 3) := by decide +kernel
theorem dX10_enemies_5 : decode cX10_enemies 5 = .ok (.ifCond .eq 11, 3) := by decide +kernel
theorem dX10_enemies_8 : decode cX10_enemies 8 = .ok (.aload_n 0, 1) := by decide +kernel
theorem dX10_enemies_9 : decode cX10_enemies 9 = .ok (.iload_n 2, 1) := by decide +kernel
theorem dX10_enemies_10 : decode cX10_enemies 10 = .ok (.invokevirtual 246, 3) := by decide +kernel
theorem dX10_enemies_13 : decode cX10_enemies 13 = .ok (.ifCond .ne 5, 3) := by decide +kernel
theorem dX10_enemies_16 : decode cX10_enemies 16 = .ok (.iconst (-1), 1) := by decide +kernel
theorem dX10_enemies_17 : decode cX10_enemies 17 = .ok (.ireturn, 1) := by decide +kernel
theorem dX10_enemies_18 : decode cX10_enemies 18 = .ok (.iload_n 1, 1) := by decide +kernel
theorem dX10_enemies_19 : decode cX10_enemies 19 = .ok (.iload_n 2, 1) := by decide +kernel
theorem dX10_enemies_20 : decode cX10_enemies 20 = .ok (.if_icmp .ne 6, 3) := by decide +kernel
theorem dX10_enemies_23 : decode cX10_enemies 23 = .ok (.bipush (-2), 2) := by decide +kernel
theorem dX10_enemies_25 : decode cX10_enemies 25 = .ok (.ireturn, 1) := by decide +kernel
theorem dX10_enemies_26 : decode cX10_enemies 26 = .ok (.aload_n 0, 1) := by decide +kernel
theorem dX10_enemies_27 : decode cX10_enemies 27 = .ok (.getfield 38, 3) := by decide +kernel
theorem dX10_enemies_30 : decode cX10_enemies 30 = .ok (.iload_n 1, 1) := by decide +kernel
theorem dX10_enemies_31 : decode cX10_enemies 31 = .ok (.iaload, 1) := by decide +kernel
theorem dX10_enemies_32 : decode cX10_enemies 32 = .ok (.iload_n 2, 1) := by decide +kernel
theorem dX10_enemies_33 : decode cX10_enemies 33 = .ok (.ishr, 1) := by decide +kernel
theorem dX10_enemies_34 : decode cX10_enemies 34 = .ok (.iconst 1, 1) := by decide +kernel
theorem dX10_enemies_35 : decode cX10_enemies 35 = .ok (.iand, 1) := by decide +kernel
theorem dX10_enemies_36 : decode cX10_enemies 36 = .ok (.istore 4, 2) := by decide +kernel
theorem dX10_enemies_38 : decode cX10_enemies 38 = .ok (.aload_n 0, 1) := by decide +kernel
theorem dX10_enemies_39 : decode cX10_enemies 39 = .ok (.getfield 38, 3) := by decide +kernel
theorem dX10_enemies_42 : decode cX10_enemies 42 = .ok (.iload_n 1, 1) := by decide +kernel
theorem dX10_enemies_43 : decode cX10_enemies 43 = .ok (.iload_n 3, 1) := by decide +kernel
theorem dX10_enemies_44 : decode cX10_enemies 44 = .ok (.ifCond .eq 16, 3) := by decide +kernel
theorem dX10_enemies_47 : decode cX10_enemies 47 = .ok (.aload_n 0, 1) := by decide +kernel
theorem dX10_enemies_48 : decode cX10_enemies 48 = .ok (.getfield 38, 3) := by decide +kernel
theorem dX10_enemies_51 : decode cX10_enemies 51 = .ok (.iload_n 1, 1) := by decide +kernel
theorem dX10_enemies_52 : decode cX10_enemies 52 = .ok (.iaload, 1) := by decide +kernel
theorem dX10_enemies_53 : decode cX10_enemies 53 = .ok (.iconst 1, 1) := by decide +kernel
theorem dX10_enemies_54 : decode cX10_enemies 54 = .ok (.iload_n 2, 1) := by decide +kernel
theorem dX10_enemies_55 : decode cX10_enemies 55 = .ok (.ishl, 1) := by decide +kernel
theorem dX10_enemies_56 : decode cX10_enemies 56 = .ok (.ior, 1) := by decide +kernel
theorem dX10_enemies_57 : decode cX10_enemies 57 = .ok (.goto 15, 3) := by decide +kernel
theorem dX10_enemies_60 : decode cX10_enemies 60 = .ok (.aload_n 0, 1) := by decide +kernel
theorem dX10_enemies_61 : decode cX10_enemies 61 = .ok (.getfield 38, 3) := by decide +kernel
theorem dX10_enemies_64 : decode cX10_enemies 64 = .ok (.iload_n 1, 1) := by decide +kernel
theorem dX10_enemies_65 : decode cX10_enemies 65 = .ok (.iaload, 1) := by decide +kernel
theorem dX10_enemies_66 : decode cX10_enemies 66 = .ok (.iconst 1, 1) := by decide +kernel
theorem dX10_enemies_67 : decode cX10_enemies 67 = .ok (.iload_n 2, 1) := by decide +kernel
theorem dX10_enemies_68 : decode cX10_enemies 68 = .ok (.ishl, 1) := by decide +kernel
theorem dX10_enemies_69 : decode cX10_enemies 69 = .ok (.iconst (-1), 1) := by decide +kernel
theorem dX10_enemies_70 : decode cX10_enemies 70 = .ok (.ixor, 1) := by decide +kernel
theorem dX10_enemies_71 : decode cX10_enemies 71 = .ok (.iand, 1) := by decide +kernel
theorem dX10_enemies_72 : decode cX10_enemies 72 = .ok (.iastore, 1) := by decide +kernel
theorem dX10_enemies_73 : decode cX10_enemies 73 = .ok (.aload_n 0, 1) := by decide +kernel
theorem dX10_enemies_74 : decode cX10_enemies 74 = .ok (.getfield 38, 3) := by decide +kernel
theorem dX10_enemies_77 : decode cX10_enemies 77 = .ok (.iload_n 2, 1) := by decide +kernel
theorem dX10_enemies_78 : decode cX10_enemies 78 = .ok (.iload_n 3, 1) := by decide +kernel
theorem dX10_enemies_79 : decode cX10_enemies 79 = .ok (.ifCond .eq 16, 3) := by decide +kernel
theorem dX10_enemies_82 : decode cX10_enemies 82 = .ok (.aload_n 0, 1) := by decide +kernel
theorem dX10_enemies_83 : decode cX10_enemies 83 = .ok (.getfield 38, 3) := by decide +kernel
theorem dX10_enemies_86 : decode cX10_enemies 86 = .ok (.iload_n 2, 1) := by decide +kernel
theorem dX10_enemies_87 : decode cX10_enemies 87 = .ok (.iaload, 1) := by decide +kernel
theorem dX10_enemies_88 : decode cX10_enemies 88 = .ok (.iconst 1, 1) := by decide +kernel
theorem dX10_enemies_89 : decode cX10_enemies 89 = .ok (.iload_n 1, 1) := by decide +kernel
theorem dX10_enemies_90 : decode cX10_enemies 90 = .ok (.ishl, 1) := by decide +kernel
theorem dX10_enemies_91 : decode cX10_enemies 91 = .ok (.ior, 1) := by decide +kernel
theorem dX10_enemies_92 : decode cX10_enemies 92 = .ok (.goto 15, 3) := by decide +kernel
theorem dX10_enemies_95 : decode cX10_enemies 95 = .ok (.aload_n 0, 1) := by decide +kernel
theorem dX10_enemies_96 : decode cX10_enemies 96 = .ok (.getfield 38, 3) := by decide +kernel
theorem dX10_enemies_99 : decode cX10_enemies 99 = .ok (.iload_n 2, 1) := by decide +kernel
theorem dX10_enemies_100 : decode cX10_enemies 100 = .ok (.iaload, 1) := by decide +kernel
theorem dX10_enemies_101 : decode cX10_enemies 101 = .ok (.iconst 1, 1) := by decide +kernel
theorem dX10_enemies_102 : decode cX10_enemies 102 = .ok (.iload_n 1, 1) := by decide +kernel
theorem dX10_enemies_103 : decode cX10_enemies 103 = .ok (.ishl, 1) := by decide +kernel
theorem dX10_enemies_104 : decode cX10_enemies 104 = .ok (.iconst (-1), 1) := by decide +kernel
theorem dX10_enemies_105 : decode cX10_enemies 105 = .ok (.ixor, 1) := by decide +kernel
theorem dX10_enemies_106 : decode cX10_enemies 106 = .ok (.iand, 1) := by decide +kernel
theorem dX10_enemies_107 : decode cX10_enemies 107 = .ok (.iastore, 1) := by decide +kernel
theorem dX10_enemies_108 : decode cX10_enemies 108 = .ok (.iload 4, 2) := by decide +kernel
theorem dX10_enemies_110 : decode cX10_enemies 110 = .ok (.ireturn, 1) := by decide +kernel
theorem dX10_tamer_0 : decode cX10_tamer 0 = .ok (.aload_n 0, 1) := by decide +kernel
theorem dX10_tamer_1 : decode cX10_tamer 1 = .ok (.iload_n 1, 1) := by decide +kernel
theorem dX10_tamer_2 : decode cX10_tamer 2 = .ok (.invokevirtual 235, 3) := by decide +kernel
theorem dX10_tamer_5 : decode cX10_tamer 5 = .ok (.ifCond .ne 5, 3) := by decide +kernel
theorem dX10_tamer_8 : decode cX10_tamer 8 = .ok (.iconst (-1), 1) := by decide +kernel
theorem dX10_tamer_9 : decode cX10_tamer 9 = .ok (.ireturn, 1) := by decide +kernel
theorem dX10_tamer_10 : decode cX10_tamer 10 = .ok (.aload_n 0, 1) := by decide +kernel
theorem dX10_tamer_11 : decode cX10_tamer 11 = .ok (.iload_n 1, 1) := by decide +kernel
theorem dX10_tamer_12 : decode cX10_tamer 12 = .ok (.invokevirtual 239, 3) := by decide +kernel
theorem dX10_tamer_15 : decode cX10_tamer 15 = .ok (.ifCond .lt 6, 3) := by decide +kernel
theorem dX10_tamer_18 : decode cX10_tamer 18 = .ok (.bipush (-3), 2) := by decide +kernel
theorem dX10_tamer_20 : decode cX10_tamer 20 = .ok (.ireturn, 1) := by decide +kernel
theorem dX10_tamer_21 : decode cX10_tamer 21 = .ok (.aload_n 0, 1) := by decide +kernel
theorem dX10_tamer_22 : decode cX10_tamer 22 = .ok (.getfield 13, 3) := by decide +kernel
theorem dX10_tamer_25 : decode cX10_tamer 25 = .ok (.istore_n 2, 1) := by decide +kernel
theorem dX10_tamer_26 : decode cX10_tamer 26 = .ok (.aload_n 0, 1) := by decide +kernel
theorem dX10_tamer_27 : decode cX10_tamer 27 = .ok (.iload_n 1, 1) := by decide +kernel
theorem dX10_tamer_28 : decode cX10_tamer 28 = .ok (.putfield 13, 3) := by decide +kernel
theorem dX10_tamer_31 : decode cX10_tamer 31 = .ok (.iload_n 2, 1) := by decide +kernel
theorem dX10_tamer_32 : decode cX10_tamer 32 = .ok (.ireturn, 1) := by decide +kernel
theorem dX10_feed_0 : decode cX10_feed 0 = .ok (.aload_n 0, 1) := by decide +kernel
theorem dX10_feed_1 : decode cX10_feed 1 = .ok (.iload_n 2, 1) := by decide +kernel
theorem dX10_feed_2 : decode cX10_feed 2 = .ok (.iconst 0, 1) := by decide +kernel
theorem dX10_feed_3 : decode cX10_feed 3 = .ok (.iconst 4, 1) := by decide +kernel
theorem dX10_feed_4 : decode cX10_feed 4 = .ok (.invokevirtual 231, 3) := by decide +kernel
theorem dX10_feed_7 : decode cX10_feed 7 = .ok (.ifCond .ne 6, 3) := by decide +kernel
theorem dX10_feed_10 : decode cX10_feed 10 = .ok (.bipush (-2), 2) := by decide +kernel
theorem dX10_feed_12 : decode cX10_feed 12 = .ok (.ireturn, 1) := by decide +kernel
theorem dX10_feed_13 : decode cX10_feed 13 = .ok (.aload_n 0, 1) := by decide +kernel
theorem dX10_feed_14 : decode cX10_feed 14 = .ok (.getfield 47, 3) := by decide +kernel
theorem dX10_feed_17 : decode cX10_feed 17 = .ok (.iload_n 2, 1) := by decide +kernel
theorem dX10_feed_18 : decode cX10_feed 18 = .ok (.iadd, 1) := by decide +kernel
theorem dX10_feed_19 : decode cX10_feed 19 = .ok (.bipush 100, 2) := by decide +kernel
theorem dX10_feed_21 : decode cX10_feed 21 = .ok (.if_icmp .le 6, 3) := by decide +kernel
theorem dX10_feed_24 : decode cX10_feed 24 = .ok (.bipush (-4), 2) := by decide +kernel
theorem dX10_feed_26 : decode cX10_feed 26 = .ok (.ireturn, 1) := by decide +kernel
theorem dX10_feed_27 : decode cX10_feed 27 = .ok (.iload_n 2, 1) := by decide +kernel
theorem dX10_feed_28 : decode cX10_feed 28 = .ok (.iconst 1, 1) := by decide +kernel
theorem dX10_feed_29 : decode cX10_feed 29 = .ok (.isub, 1) := by decide +kernel
theorem dX10_feed_30 : decode cX10_feed 30 = .ok (.istore_n 3, 1) := by decide +kernel
theorem dX10_feed_31 : decode cX10_feed 31 = .ok (.iload_n 3, 1) := by decide +kernel
theorem dX10_feed_32 : decode cX10_feed 32 = .ok (.ifCond .lt 35, 3) := by decide +kernel
theorem dX10_feed_35 : decode cX10_feed 35 = .ok (.aload_n 0, 1) := by decide +kernel
theorem dX10_feed_36 : decode cX10_feed 36 = .ok (.getfield 56, 3) := by decide +kernel
theorem dX10_feed_39 : decode cX10_feed 39 = .ok (.aload_n 0, 1) := by decide +kernel
theorem dX10_feed_40 : decode cX10_feed 40 = .ok (.getfield 47, 3) := by decide +kernel
theorem dX10_feed_43 : decode cX10_feed 43 = .ok (.iload_n 1, 1) := by decide +kernel
theorem dX10_feed_44 : decode cX10_feed 44 = .ok (.bipush 8, 2) := by decide +kernel
theorem dX10_feed_46 : decode cX10_feed 46 = .ok (.iload_n 3, 1) := by decide +kernel
theorem dX10_feed_47 : decode cX10_feed 47 = .ok (.imul, 1) := by decide +kernel
theorem dX10_feed_48 : decode cX10_feed 48 = .ok (.ishr, 1) := by decide +kernel
theorem dX10_feed_49 : decode cX10_feed 49 = .ok (.i2b, 1) := by decide +kernel
theorem dX10_feed_50 : decode cX10_feed 50 = .ok (.iastore, 1) := by decide +kernel
theorem dX10_feed_51 : decode cX10_feed 51 = .ok (.aload_n 0, 1) := by decide +kernel
theorem dX10_feed_52 : decode cX10_feed 52 = .ok (.dup, 1) := by decide +kernel
theorem dX10_feed_53 : decode cX10_feed 53 = .ok (.getfield 47, 3) := by decide +kernel
theorem dX10_feed_56 : decode cX10_feed 56 = .ok (.iconst 1, 1) := by decide +kernel
theorem dX10_feed_57 : decode cX10_feed 57 = .ok (.iadd, 1) := by decide +kernel
theorem dX10_feed_58 : decode cX10_feed 58 = .ok (.putfield 47, 3) := by decide +kernel
theorem dX10_feed_61 : decode cX10_feed 61 = .ok (.iinc 3 (-1), 3) := by decide +kernel
theorem dX10_feed_64 : decode cX10_feed 64 = .ok (.goto (-33), 3) := by decide +kernel
theorem dX10_feed_67 : decode cX10_feed 67 = .ok (.aload_n 0, 1) := by decide +kernel
theorem dX10_feed_68 : decode cX10_feed 68 = .ok (.getfield 47, 3) := by decide +kernel
theorem dX10_feed_71 : decode cX10_feed 71 = .ok (.ireturn, 1) := by decide +kernel
theorem dX10_next_0 : decode cX10_next 0 = .ok (.aload_n 0, 1) := by decide +kernel
theorem dX10_next_1 : decode cX10_next 1 = .ok (.getfield 50, 3) := by decide +kernel
theorem dX10_next_4 : decode cX10_next 4 = .ok (.aload_n 0, 1) := by decide +kernel
theorem dX10_next_5 : decode cX10_next 5 = .ok (.getfield 47, 3) := by decide +kernel
theorem dX10_next_8 : decode cX10_next 8 = .ok (.if_icmp .ge 15, 3) := by decide +kernel
theorem dX10_next_11 : decode cX10_next 11 = .ok (.aload_n 0, 1) := by decide +kernel
theorem dX10_next_12 : decode cX10_next 12 = .ok (.getfield 56, 3) := by decide +kernel
theorem dX10_next_15 : decode cX10_next 15 = .ok (.aload_n 0, 1) := by decide +kernel
theorem dX10_next_16 : decode cX10_next 16 = .ok (.getfield 50, 3) := by decide +kernel
theorem dX10_next_19 : decode cX10_next 19 = .ok (.iaload, 1) := by decide +kernel
theorem dX10_next_20 : decode cX10_next 20 = .ok (.goto 4, 3) := by decide +kernel
theorem dX10_next_23 : decode cX10_next 23 = .ok (.iconst (-1), 1) := by decide +kernel
theorem dX10_next_24 : decode cX10_next 24 = .ok (.ireturn, 1) := by decide +kernel
theorem dX10_takes_0 : decode cX10_takes 0 = .ok (.aload_n 0, 1) := by decide +kernel
theorem dX10_takes_1 : decode cX10_takes 1 = .ok (.invokevirtual 249, 3) := by decide +kernel
theorem dX10_takes_4 : decode cX10_takes 4 = .ok (.iload_n 1, 1) := by decide +kernel
theorem dX10_takes_5 : decode cX10_takes 5 = .ok (.if_icmp .eq 5, 3) := by decide +kernel
theorem dX10_takes_8 : decode cX10_takes 8 = .ok (.iconst 0, 1) := by decide +kernel
theorem dX10_takes_9 : decode cX10_takes 9 = .ok (.ireturn, 1) := by decide +kernel
theorem dX10_takes_10 : decode cX10_takes 10 = .ok (.aload_n 0, 1) := by decide +kernel
theorem dX10_takes_11 : decode cX10_takes 11 = .ok (.dup, 1) := by decide +kernel
theorem dX10_takes_12 : decode cX10_takes 12 = .ok (.getfield 50, 3) := by decide +kernel
theorem dX10_takes_15 : decode cX10_takes 15 = .ok (.iconst 1, 1) := by decide +kernel
theorem dX10_takes_16 : decode cX10_takes 16 = .ok (.iadd, 1) := by decide +kernel
theorem dX10_takes_17 : decode cX10_takes 17 = .ok (.putfield 50, 3) := by decide +kernel
theorem dX10_takes_20 : decode cX10_takes 20 = .ok (.iconst 1, 1) := by decide +kernel
theorem dX10_takes_21 : decode cX10_takes 21 = .ok (.ireturn, 1) := by decide +kernel
theorem dX10_takesWord_0 : decode cX10_takesWord 0 = .ok (.iconst 0, 1) := by decide +kernel
theorem dX10_takesWord_1 : decode cX10_takesWord 1 = .ok (.istore_n 3, 1) := by decide +kernel
theorem dX10_takesWord_2 : decode cX10_takesWord 2 = .ok (.iload_n 3, 1) := by decide +kernel
theorem dX10_takesWord_3 : decode cX10_takesWord 3 = .ok (.iload_n 2, 1) := by decide +kernel
theorem dX10_takesWord_4 : decode cX10_takesWord 4 = .ok (.if_icmp .ge 26, 3) := by decide +kernel
theorem dX10_takesWord_7 : decode cX10_takesWord 7 = .ok (.aload_n 0, 1) := by decide +kernel
theorem dX10_takesWord_8 : decode cX10_takesWord 8 = .ok (.aload_n 0, 1) := by decide +kernel
theorem dX10_takesWord_9 : decode cX10_takesWord 9 = .ok (.getfield 89, 3) := by decide +kernel
theorem dX10_takesWord_12 : decode cX10_takesWord 12 = .ok (.iload_n 1, 1) := by decide +kernel
theorem dX10_takesWord_13 : decode cX10_takesWord 13 = .ok (.iload_n 3, 1) := by decide +kernel
theorem dX10_takesWord_14 : decode cX10_takesWord 14 = .ok (.iadd, 1) := by decide +kernel
theorem dX10_takesWord_15 : decode cX10_takesWord 15 = .ok (.iaload, 1) := by decide +kernel
theorem dX10_takesWord_16 : decode cX10_takesWord 16 = .ok (.invokevirtual 253, 3) := by decide +kernel
theorem dX10_takesWord_19 : decode cX10_takesWord 19 = .ok (.ifCond .ne 5, 3) := by decide +kernel
theorem dX10_takesWord_22 : decode cX10_takesWord 22 = .ok (.iconst 0, 1) := by decide +kernel
theorem dX10_takesWord_23 : decode cX10_takesWord 23 = .ok (.ireturn, 1) := by decide +kernel
theorem dX10_takesWord_24 : decode cX10_takesWord 24 = .ok (.iinc 3 1, 3) := by decide +kernel
theorem dX10_takesWord_27 : decode cX10_takesWord 27 = .ok (.goto (-25), 3) := by decide +kernel
theorem dX10_takesWord_30 : decode cX10_takesWord 30 = .ok (.aload_n 0, 1) := by decide +kernel
theorem dX10_takesWord_31 : decode cX10_takesWord 31 = .ok (.bipush 32, 2) := by decide +kernel
theorem dX10_takesWord_33 : decode cX10_takesWord 33 = .ok (.invokevirtual 253, 3) := by decide +kernel
theorem dX10_takesWord_36 : decode cX10_takesWord 36 = .ok (.ireturn, 1) := by decide +kernel
theorem dX10_isDigit_0 : decode cX10_isDigit 0 = .ok (.aload_n 0, 1) := by decide +kernel
theorem dX10_isDigit_1 : decode cX10_isDigit 1 = .ok (.aload_n 0, 1) := by decide +kernel
theorem dX10_isDigit_2 : decode cX10_isDigit 2 = .ok (.invokevirtual 249, 3) := by decide +kernel
theorem dX10_isDigit_5 : decode cX10_isDigit 5 = .ok (.bipush 48, 2) := by decide +kernel
theorem dX10_isDigit_7 : decode cX10_isDigit 7 = .ok (.bipush 57, 2) := by decide +kernel
theorem dX10_isDigit_9 : decode cX10_isDigit 9 = .ok (.invokevirtual 231, 3) := by decide +kernel
theorem dX10_isDigit_12 : decode cX10_isDigit 12 = .ok (.ireturn, 1) := by decide +kernel
theorem dX10_takesNumber_0 : decode cX10_takesNumber 0 = .ok (.aload_n 0, 1) := by decide +kernel
theorem dX10_takesNumber_1 : decode cX10_takesNumber 1 = .ok (.invokevirtual 256, 3) := by decide +kernel
theorem dX10_takesNumber_4 : decode cX10_takesNumber 4 = .ok (.ifCond .ne 5, 3) := by decide +kernel
theorem dX10_takesNumber_7 : decode cX10_takesNumber 7 = .ok (.iconst 0, 1) := by decide +kernel
theorem dX10_takesNumber_8 : decode cX10_takesNumber 8 = .ok (.ireturn, 1) := by decide +kernel
theorem dX10_takesNumber_9 : decode cX10_takesNumber 9 = .ok (.aload_n 0, 1) := by decide +kernel
theorem dX10_takesNumber_10 : decode cX10_takesNumber 10 = .ok (.iconst 0, 1) := by decide +kernel
theorem dX10_takesNumber_11 : decode cX10_takesNumber 11 = .ok (.putfield 53, 3) := by decide +kernel
theorem dX10_takesNumber_14 : decode cX10_takesNumber 14 = .ok (.iconst 0, 1) := by decide +kernel
theorem dX10_takesNumber_15 : decode cX10_takesNumber 15 = .ok (.istore_n 1, 1) := by decide +kernel
theorem dX10_takesNumber_16 : decode cX10_takesNumber 16 = .ok (.iload_n 1, 1) := by decide +kernel
theorem dX10_takesNumber_17 : decode cX10_takesNumber 17 = .ok (.iconst 2, 1) := by decide +kernel
theorem dX10_takesNumber_18 : decode cX10_takesNumber 18 = .ok (.if_icmp .ge 45, 3) := by decide +kernel
theorem dX10_takesNumber_21 : decode cX10_takesNumber 21 = .ok (.aload_n 0, 1) := by decide +kernel
theorem dX10_takesNumber_22 : decode cX10_takesNumber 22 = .ok (.invokevirtual 256, 3) := by decide +kernel
theorem dX10_takesNumber_25 : decode cX10_takesNumber 25 = .ok (.ifCond .eq 38, 3) := by decide +kernel
theorem dX10_takesNumber_28 : decode cX10_takesNumber 28 = .ok (.aload_n 0, 1) := by decide +kernel
theorem dX10_takesNumber_29 : decode cX10_takesNumber 29 = .ok (.bipush 10, 2) := by decide +kernel
theorem dX10_takesNumber_31 : decode cX10_takesNumber 31 = .ok (.aload_n 0, 1) := by decide +kernel
theorem dX10_takesNumber_32 : decode cX10_takesNumber 32 = .ok (.getfield 53, 3) := by decide +kernel
theorem dX10_takesNumber_35 : decode cX10_takesNumber 35 = .ok (.imul, 1) := by decide +kernel
theorem dX10_takesNumber_36 : decode cX10_takesNumber 36 = .ok (.aload_n 0, 1) := by decide +kernel
theorem dX10_takesNumber_37 : decode cX10_takesNumber 37 = .ok (.invokevirtual 249, 3) := by decide +kernel
theorem dX10_takesNumber_40 : decode cX10_takesNumber 40 = .ok (.iadd, 1) := by decide +kernel
theorem dX10_takesNumber_41 : decode cX10_takesNumber 41 = .ok (.bipush 48, 2) := by decide +kernel
theorem dX10_takesNumber_43 : decode cX10_takesNumber 43 = .ok (.isub, 1) := by decide +kernel
theorem dX10_takesNumber_44 : decode cX10_takesNumber 44 = .ok (.putfield 53, 3) := by decide +kernel
theorem dX10_takesNumber_47 : decode cX10_takesNumber 47 = .ok (.aload_n 0, 1) := by decide +kernel
theorem dX10_takesNumber_48 : decode cX10_takesNumber 48 = .ok (.dup, 1) := by decide +kernel
theorem dX10_takesNumber_49 : decode cX10_takesNumber 49 = .ok (.getfield 50, 3) := by decide +kernel
theorem dX10_takesNumber_52 : decode cX10_takesNumber 52 = .ok (.iconst 1, 1) := by decide +kernel
theorem dX10_takesNumber_53 : decode cX10_takesNumber 53 = .ok (.iadd, 1) := by decide +kernel
theorem dX10_takesNumber_54 : decode cX10_takesNumber 54 = .ok (.putfield 50, 3) := by decide +kernel
theorem dX10_takesNumber_57 : decode cX10_takesNumber 57 = .ok (.iinc 1 1, 3) := by decide +kernel
theorem dX10_takesNumber_60 : decode cX10_takesNumber 60 = .ok (.goto (-44), 3) := by decide +kernel
theorem dX10_takesNumber_63 : decode cX10_takesNumber 63 = .ok (.iconst 1, 1) := by decide +kernel
theorem dX10_takesNumber_64 : decode cX10_takesNumber 64 = .ok (.ireturn, 1) := by decide +kernel
theorem dX10_put_0 : decode cX10_put 0 = .ok (.aload_n 0, 1) := by decide +kernel
theorem dX10_put_1 : decode cX10_put 1 = .ok (.getfield 74, 3) := by decide +kernel
theorem dX10_put_4 : decode cX10_put 4 = .ok (.aload_n 0, 1) := by decide +kernel
theorem dX10_put_5 : decode cX10_put 5 = .ok (.getfield 80, 3) := by decide +kernel
theorem dX10_put_8 : decode cX10_put 8 = .ok (.iload_n 1, 1) := by decide +kernel
theorem dX10_put_9 : decode cX10_put 9 = .ok (.iastore, 1) := by decide +kernel
theorem dX10_put_10 : decode cX10_put 10 = .ok (.aload_n 0, 1) := by decide +kernel
theorem dX10_put_11 : decode cX10_put 11 = .ok (.dup, 1) := by decide +kernel
theorem dX10_put_12 : decode cX10_put 12 = .ok (.getfield 80, 3) := by decide +kernel
theorem dX10_put_15 : decode cX10_put 15 = .ok (.iconst 1, 1) := by decide +kernel
theorem dX10_put_16 : decode cX10_put 16 = .ok (.iadd, 1) := by decide +kernel
theorem dX10_put_17 : decode cX10_put 17 = .ok (.putfield 80, 3) := by decide +kernel
theorem dX10_put_20 : decode cX10_put 20 = .ok (.return_, 1) := by decide +kernel
theorem dX10_whole_0 : decode cX10_whole 0 = .ok (.aload_n 0, 1) := by decide +kernel
theorem dX10_whole_1 : decode cX10_whole 1 = .ok (.getfield 83, 3) := by decide +kernel
theorem dX10_whole_4 : decode cX10_whole 4 = .ok (.ifCond .le 48, 3) := by decide +kernel
theorem dX10_whole_7 : decode cX10_whole 7 = .ok (.aload_n 0, 1) := by decide +kernel
theorem dX10_whole_8 : decode cX10_whole 8 = .ok (.getfield 77, 3) := by decide +kernel
theorem dX10_whole_11 : decode cX10_whole 11 = .ok (.aload_n 0, 1) := by decide +kernel
theorem dX10_whole_12 : decode cX10_whole 12 = .ok (.getfield 83, 3) := by decide +kernel
theorem dX10_whole_15 : decode cX10_whole 15 = .ok (.iconst 1, 1) := by decide +kernel
theorem dX10_whole_16 : decode cX10_whole 16 = .ok (.isub, 1) := by decide +kernel
theorem dX10_whole_17 : decode cX10_whole 17 = .ok (.iaload, 1) := by decide +kernel
theorem dX10_whole_18 : decode cX10_whole 18 = .ok (.bipush 33, 2) := by decide +kernel
theorem dX10_whole_20 : decode cX10_whole 20 = .ok (.if_icmp .ne 32, 3) := by decide +kernel
theorem dX10_whole_23 : decode cX10_whole 23 = .ok (.aload_n 0, 1) := by decide +kernel
theorem dX10_whole_24 : decode cX10_whole 24 = .ok (.bipush (-33), 2) := by decide +kernel
theorem dX10_whole_26 : decode cX10_whole 26 = .ok (.invokevirtual 260, 3) := by decide +kernel
theorem dX10_whole_29 : decode cX10_whole 29 = .ok (.aload_n 0, 1) := by decide +kernel
theorem dX10_whole_30 : decode cX10_whole 30 = .ok (.dup, 1) := by decide +kernel
theorem dX10_whole_31 : decode cX10_whole 31 = .ok (.getfield 83, 3) := by decide +kernel
theorem dX10_whole_34 : decode cX10_whole 34 = .ok (.iconst 1, 1) := by decide +kernel
theorem dX10_whole_35 : decode cX10_whole 35 = .ok (.isub, 1) := by decide +kernel
theorem dX10_whole_36 : decode cX10_whole 36 = .ok (.putfield 83, 3) := by decide +kernel
theorem dX10_whole_39 : decode cX10_whole 39 = .ok (.aload_n 0, 1) := by decide +kernel
theorem dX10_whole_40 : decode cX10_whole 40 = .ok (.dup, 1) := by decide +kernel
theorem dX10_whole_41 : decode cX10_whole 41 = .ok (.getfield 86, 3) := by decide +kernel
theorem dX10_whole_44 : decode cX10_whole 44 = .ok (.iconst 1, 1) := by decide +kernel
theorem dX10_whole_45 : decode cX10_whole 45 = .ok (.isub, 1) := by decide +kernel
theorem dX10_whole_46 : decode cX10_whole 46 = .ok (.putfield 86, 3) := by decide +kernel
theorem dX10_whole_49 : decode cX10_whole 49 = .ok (.goto (-49), 3) := by decide +kernel
theorem dX10_whole_52 : decode cX10_whole 52 = .ok (.return_, 1) := by decide +kernel
theorem dX10_settle_0 : decode cX10_settle 0 = .ok (.aload_n 0, 1) := by decide +kernel
theorem dX10_settle_1 : decode cX10_settle 1 = .ok (.getfield 83, 3) := by decide +kernel
theorem dX10_settle_4 : decode cX10_settle 4 = .ok (.ifCond .le 68, 3) := by decide +kernel
theorem dX10_settle_7 : decode cX10_settle 7 = .ok (.aload_n 0, 1) := by decide +kernel
theorem dX10_settle_8 : decode cX10_settle 8 = .ok (.getfield 77, 3) := by decide +kernel
theorem dX10_settle_11 : decode cX10_settle 11 = .ok (.aload_n 0, 1) := by decide +kernel
theorem dX10_settle_12 : decode cX10_settle 12 = .ok (.getfield 83, 3) := by decide +kernel
theorem dX10_settle_15 : decode cX10_settle 15 = .ok (.iconst 1, 1) := by decide +kernel
theorem dX10_settle_16 : decode cX10_settle 16 = .ok (.isub, 1) := by decide +kernel
theorem dX10_settle_17 : decode cX10_settle 17 = .ok (.iaload, 1) := by decide +kernel
theorem dX10_settle_18 : decode cX10_settle 18 = .ok (.bipush 38, 2) := by decide +kernel
theorem dX10_settle_20 : decode cX10_settle 20 = .ok (.if_icmp .eq 25, 3) := by decide +kernel
theorem dX10_settle_23 : decode cX10_settle 23 = .ok (.aload_n 0, 1) := by decide +kernel
theorem dX10_settle_24 : decode cX10_settle 24 = .ok (.getfield 77, 3) := by decide +kernel
theorem dX10_settle_27 : decode cX10_settle 27 = .ok (.aload_n 0, 1) := by decide +kernel
theorem dX10_settle_28 : decode cX10_settle 28 = .ok (.getfield 83, 3) := by decide +kernel
theorem dX10_settle_31 : decode cX10_settle 31 = .ok (.iconst 1, 1) := by decide +kernel
theorem dX10_settle_32 : decode cX10_settle 32 = .ok (.isub, 1) := by decide +kernel
theorem dX10_settle_33 : decode cX10_settle 33 = .ok (.iaload, 1) := by decide +kernel
theorem dX10_settle_34 : decode cX10_settle 34 = .ok (.bipush 124, 2) := by decide +kernel
theorem dX10_settle_36 : decode cX10_settle 36 = .ok (.if_icmp .ne 36, 3) := by decide +kernel
theorem dX10_settle_39 : decode cX10_settle 39 = .ok (.iload_n 1, 1) := by decide +kernel
theorem dX10_settle_40 : decode cX10_settle 40 = .ok (.bipush 38, 2) := by decide +kernel
theorem dX10_settle_42 : decode cX10_settle 42 = .ok (.if_icmp .eq 30, 3) := by decide +kernel
theorem dX10_settle_45 : decode cX10_settle 45 = .ok (.aload_n 0, 1) := by decide +kernel
theorem dX10_settle_46 : decode cX10_settle 46 = .ok (.dup, 1) := by decide +kernel
theorem dX10_settle_47 : decode cX10_settle 47 = .ok (.getfield 83, 3) := by decide +kernel
theorem dX10_settle_50 : decode cX10_settle 50 = .ok (.iconst 1, 1) := by decide +kernel
theorem dX10_settle_51 : decode cX10_settle 51 = .ok (.isub, 1) := by decide +kernel
theorem dX10_settle_52 : decode cX10_settle 52 = .ok (.putfield 83, 3) := by decide +kernel
theorem dX10_settle_55 : decode cX10_settle 55 = .ok (.aload_n 0, 1) := by decide +kernel
theorem dX10_settle_56 : decode cX10_settle 56 = .ok (.aload_n 0, 1) := by decide +kernel
theorem dX10_settle_57 : decode cX10_settle 57 = .ok (.getfield 77, 3) := by decide +kernel
theorem dX10_settle_60 : decode cX10_settle 60 = .ok (.aload_n 0, 1) := by decide +kernel
theorem dX10_settle_61 : decode cX10_settle 61 = .ok (.getfield 83, 3) := by decide +kernel
theorem dX10_settle_64 : decode cX10_settle 64 = .ok (.iaload, 1) := by decide +kernel
theorem dX10_settle_65 : decode cX10_settle 65 = .ok (.ineg, 1) := by decide +kernel
theorem dX10_settle_66 : decode cX10_settle 66 = .ok (.invokevirtual 260, 3) := by decide +kernel
theorem dX10_settle_69 : decode cX10_settle 69 = .ok (.goto (-69), 3) := by decide +kernel
theorem dX10_settle_72 : decode cX10_settle 72 = .ok (.return_, 1) := by decide +kernel
theorem dX10_place_0 : decode cX10_place 0 = .ok (.iload_n 1, 1) := by decide +kernel
theorem dX10_place_1 : decode cX10_place 1 = .ok (.lookupswitch 61 #[(98, 55), (99, 57), (104, 53), (110, 51), (116, 59)], 51) := by decide +kernel
theorem dX10_place_52 : decode cX10_place 52 = .ok (.iconst 0, 1) := by decide +kernel
theorem dX10_place_53 : decode cX10_place 53 = .ok (.ireturn, 1) := by decide +kernel
theorem dX10_place_54 : decode cX10_place 54 = .ok (.iconst 1, 1) := by decide +kernel
theorem dX10_place_55 : decode cX10_place 55 = .ok (.ireturn, 1) := by decide +kernel
theorem dX10_place_56 : decode cX10_place 56 = .ok (.iconst 2, 1) := by decide +kernel
theorem dX10_place_57 : decode cX10_place 57 = .ok (.ireturn, 1) := by decide +kernel
theorem dX10_place_58 : decode cX10_place 58 = .ok (.iconst 3, 1) := by decide +kernel
theorem dX10_place_59 : decode cX10_place 59 = .ok (.ireturn, 1) := by decide +kernel
theorem dX10_place_60 : decode cX10_place 60 = .ok (.iconst 4, 1) := by decide +kernel
theorem dX10_place_61 : decode cX10_place 61 = .ok (.ireturn, 1) := by decide +kernel
theorem dX10_place_62 : decode cX10_place 62 = .ok (.iconst (-1), 1) := by decide +kernel
theorem dX10_place_63 : decode cX10_place 63 = .ok (.ireturn, 1) := by decide +kernel
theorem dX10_takesTest_0 : decode cX10_takesTest 0 = .ok (.aload_n 0, 1) := by decide +kernel
theorem dX10_takesTest_1 : decode cX10_takesTest 1 = .ok (.aload_n 0, 1) := by decide +kernel
theorem dX10_takesTest_2 : decode cX10_takesTest 2 = .ok (.invokevirtual 249, 3) := by decide +kernel
theorem dX10_takesTest_5 : decode cX10_takesTest 5 = .ok (.invokevirtual 264, 3) := by decide +kernel
theorem dX10_takesTest_8 : decode cX10_takesTest 8 = .ok (.istore_n 1, 1) := by decide +kernel
theorem dX10_takesTest_9 : decode cX10_takesTest 9 = .ok (.iload_n 1, 1) := by decide +kernel
theorem dX10_takesTest_10 : decode cX10_takesTest 10 = .ok (.ifCond .ge 5, 3) := by decide +kernel
theorem dX10_takesTest_13 : decode cX10_takesTest 13 = .ok (.iconst 0, 1) := by decide +kernel
theorem dX10_takesTest_14 : decode cX10_takesTest 14 = .ok (.ireturn, 1) := by decide +kernel
theorem dX10_takesTest_15 : decode cX10_takesTest 15 = .ok (.aload_n 0, 1) := by decide +kernel
theorem dX10_takesTest_16 : decode cX10_takesTest 16 = .ok (.dup, 1) := by decide +kernel
theorem dX10_takesTest_17 : decode cX10_takesTest 17 = .ok (.getfield 50, 3) := by decide +kernel
theorem dX10_takesTest_20 : decode cX10_takesTest 20 = .ok (.iconst 1, 1) := by decide +kernel
theorem dX10_takesTest_21 : decode cX10_takesTest 21 = .ok (.iadd, 1) := by decide +kernel
theorem dX10_takesTest_22 : decode cX10_takesTest 22 = .ok (.putfield 50, 3) := by decide +kernel
theorem dX10_takesTest_25 : decode cX10_takesTest 25 = .ok (.aload_n 0, 1) := by decide +kernel
theorem dX10_takesTest_26 : decode cX10_takesTest 26 = .ok (.invokevirtual 249, 3) := by decide +kernel
theorem dX10_takesTest_29 : decode cX10_takesTest 29 = .ok (.istore_n 2, 1) := by decide +kernel
theorem dX10_takesTest_30 : decode cX10_takesTest 30 = .ok (.aload_n 0, 1) := by decide +kernel
theorem dX10_takesTest_31 : decode cX10_takesTest 31 = .ok (.iload_n 2, 1) := by decide +kernel
theorem dX10_takesTest_32 : decode cX10_takesTest 32 = .ok (.bipush 60, 2) := by decide +kernel
theorem dX10_takesTest_34 : decode cX10_takesTest 34 = .ok (.bipush 62, 2) := by decide +kernel
theorem dX10_takesTest_36 : decode cX10_takesTest 36 = .ok (.invokevirtual 231, 3) := by decide +kernel
theorem dX10_takesTest_39 : decode cX10_takesTest 39 = .ok (.ifCond .ne 5, 3) := by decide +kernel
theorem dX10_takesTest_42 : decode cX10_takesTest 42 = .ok (.iconst 0, 1) := by decide +kernel
theorem dX10_takesTest_43 : decode cX10_takesTest 43 = .ok (.ireturn, 1) := by decide +kernel
theorem dX10_takesTest_44 : decode cX10_takesTest 44 = .ok (.aload_n 0, 1) := by decide +kernel
theorem dX10_takesTest_45 : decode cX10_takesTest 45 = .ok (.dup, 1) := by decide +kernel
theorem dX10_takesTest_46 : decode cX10_takesTest 46 = .ok (.getfield 50, 3) := by decide +kernel
theorem dX10_takesTest_49 : decode cX10_takesTest 49 = .ok (.iconst 1, 1) := by decide +kernel
theorem dX10_takesTest_50 : decode cX10_takesTest 50 = .ok (.iadd, 1) := by decide +kernel
theorem dX10_takesTest_51 : decode cX10_takesTest 51 = .ok (.putfield 50, 3) := by decide +kernel
theorem dX10_takesTest_54 : decode cX10_takesTest 54 = .ok (.aload_n 0, 1) := by decide +kernel
theorem dX10_takesTest_55 : decode cX10_takesTest 55 = .ok (.invokevirtual 267, 3) := by decide +kernel
theorem dX10_takesTest_58 : decode cX10_takesTest 58 = .ok (.ifCond .ne 5, 3) := by decide +kernel
theorem dX10_takesTest_61 : decode cX10_takesTest 61 = .ok (.iconst 0, 1) := by decide +kernel
theorem dX10_takesTest_62 : decode cX10_takesTest 62 = .ok (.ireturn, 1) := by decide +kernel
theorem dX10_takesTest_63 : decode cX10_takesTest 63 = .ok (.aload_n 0, 1) := by decide +kernel
theorem dX10_takesTest_64 : decode cX10_takesTest 64 = .ok (.sipush 1000, 3) := by decide +kernel
theorem dX10_takesTest_67 : decode cX10_takesTest 67 = .ok (.iload_n 1, 1) := by decide +kernel
theorem dX10_takesTest_68 : decode cX10_takesTest 68 = .ok (.imul, 1) := by decide +kernel
theorem dX10_takesTest_69 : decode cX10_takesTest 69 = .ok (.bipush 100, 2) := by decide +kernel
theorem dX10_takesTest_71 : decode cX10_takesTest 71 = .ok (.iload_n 2, 1) := by decide +kernel
theorem dX10_takesTest_72 : decode cX10_takesTest 72 = .ok (.bipush 60, 2) := by decide +kernel
theorem dX10_takesTest_74 : decode cX10_takesTest 74 = .ok (.isub, 1) := by decide +kernel
theorem dX10_takesTest_75 : decode cX10_takesTest 75 = .ok (.imul, 1) := by decide +kernel
theorem dX10_takesTest_76 : decode cX10_takesTest 76 = .ok (.iadd, 1) := by decide +kernel
theorem dX10_takesTest_77 : decode cX10_takesTest 77 = .ok (.aload_n 0, 1) := by decide +kernel
theorem dX10_takesTest_78 : decode cX10_takesTest 78 = .ok (.getfield 53, 3) := by decide +kernel
theorem dX10_takesTest_81 : decode cX10_takesTest 81 = .ok (.iadd, 1) := by decide +kernel
theorem dX10_takesTest_82 : decode cX10_takesTest 82 = .ok (.invokevirtual 260, 3) := by decide +kernel
theorem dX10_takesTest_85 : decode cX10_takesTest 85 = .ok (.aload_n 0, 1) := by decide +kernel
theorem dX10_takesTest_86 : decode cX10_takesTest 86 = .ok (.invokevirtual 270, 3) := by decide +kernel
theorem dX10_takesTest_89 : decode cX10_takesTest 89 = .ok (.iconst 1, 1) := by decide +kernel
theorem dX10_takesTest_90 : decode cX10_takesTest 90 = .ok (.ireturn, 1) := by decide +kernel
theorem dX10_takesE_0 : decode cX10_takesE 0 = .ok (.aload_n 0, 1) := by decide +kernel
theorem dX10_takesE_1 : decode cX10_takesE 1 = .ok (.iconst 0, 1) := by decide +kernel
theorem dX10_takesE_2 : decode cX10_takesE 2 = .ok (.putfield 83, 3) := by decide +kernel
theorem dX10_takesE_5 : decode cX10_takesE 5 = .ok (.aload_n 0, 1) := by decide +kernel
theorem dX10_takesE_6 : decode cX10_takesE 6 = .ok (.iconst 0, 1) := by decide +kernel
theorem dX10_takesE_7 : decode cX10_takesE 7 = .ok (.putfield 86, 3) := by decide +kernel
theorem dX10_takesE_10 : decode cX10_takesE 10 = .ok (.aload_n 0, 1) := by decide +kernel
theorem dX10_takesE_11 : decode cX10_takesE 11 = .ok (.getfield 68, 3) := by decide +kernel
theorem dX10_takesE_14 : decode cX10_takesE 14 = .ok (.iload_n 1, 1) := by decide +kernel
theorem dX10_takesE_15 : decode cX10_takesE 15 = .ok (.aload_n 0, 1) := by decide +kernel
theorem dX10_takesE_16 : decode cX10_takesE 16 = .ok (.getfield 80, 3) := by decide +kernel
theorem dX10_takesE_19 : decode cX10_takesE 19 = .ok (.iastore, 1) := by decide +kernel
theorem dX10_takesE_20 : decode cX10_takesE 20 = .ok (.iconst 1, 1) := by decide +kernel
theorem dX10_takesE_21 : decode cX10_takesE 21 = .ok (.istore_n 2, 1) := by decide +kernel
theorem dX10_takesE_22 : decode cX10_takesE 22 = .ok (.aload_n 0, 1) := by decide +kernel
theorem dX10_takesE_23 : decode cX10_takesE 23 = .ok (.invokevirtual 249, 3) := by decide +kernel
theorem dX10_takesE_26 : decode cX10_takesE 26 = .ok (.istore_n 3, 1) := by decide +kernel
theorem dX10_takesE_27 : decode cX10_takesE 27 = .ok (.iload_n 2, 1) := by decide +kernel
theorem dX10_takesE_28 : decode cX10_takesE 28 = .ok (.ifCond .eq 82, 3) := by decide +kernel
theorem dX10_takesE_31 : decode cX10_takesE 31 = .ok (.iload_n 3, 1) := by decide +kernel
theorem dX10_takesE_32 : decode cX10_takesE 32 = .ok (.bipush 33, 2) := by decide +kernel
theorem dX10_takesE_34 : decode cX10_takesE 34 = .ok (.if_icmp .eq 9, 3) := by decide +kernel
theorem dX10_takesE_37 : decode cX10_takesE 37 = .ok (.iload_n 3, 1) := by decide +kernel
theorem dX10_takesE_38 : decode cX10_takesE 38 = .ok (.bipush 40, 2) := by decide +kernel
theorem dX10_takesE_40 : decode cX10_takesE 40 = .ok (.if_icmp .ne 56, 3) := by decide +kernel
theorem dX10_takesE_43 : decode cX10_takesE 43 = .ok (.aload_n 0, 1) := by decide +kernel
theorem dX10_takesE_44 : decode cX10_takesE 44 = .ok (.getfield 86, 3) := by decide +kernel
theorem dX10_takesE_47 : decode cX10_takesE 47 = .ok (.iconst 4, 1) := by decide +kernel
theorem dX10_takesE_48 : decode cX10_takesE 48 = .ok (.if_icmp .ne 5, 3) := by decide +kernel
theorem dX10_takesE_51 : decode cX10_takesE 51 = .ok (.iconst 0, 1) := by decide +kernel
theorem dX10_takesE_52 : decode cX10_takesE 52 = .ok (.ireturn, 1) := by decide +kernel
theorem dX10_takesE_53 : decode cX10_takesE 53 = .ok (.aload_n 0, 1) := by decide +kernel
theorem dX10_takesE_54 : decode cX10_takesE 54 = .ok (.dup, 1) := by decide +kernel
theorem dX10_takesE_55 : decode cX10_takesE 55 = .ok (.getfield 86, 3) := by decide +kernel
theorem dX10_takesE_58 : decode cX10_takesE 58 = .ok (.iconst 1, 1) := by decide +kernel
theorem dX10_takesE_59 : decode cX10_takesE 59 = .ok (.iadd, 1) := by decide +kernel
theorem dX10_takesE_60 : decode cX10_takesE 60 = .ok (.putfield 86, 3) := by decide +kernel
theorem dX10_takesE_63 : decode cX10_takesE 63 = .ok (.aload_n 0, 1) := by decide +kernel
theorem dX10_takesE_64 : decode cX10_takesE 64 = .ok (.getfield 77, 3) := by decide +kernel
theorem dX10_takesE_67 : decode cX10_takesE 67 = .ok (.aload_n 0, 1) := by decide +kernel
theorem dX10_takesE_68 : decode cX10_takesE 68 = .ok (.getfield 83, 3) := by decide +kernel
theorem dX10_takesE_71 : decode cX10_takesE 71 = .ok (.iload_n 3, 1) := by decide +kernel
theorem dX10_takesE_72 : decode cX10_takesE 72 = .ok (.iastore, 1) := by decide +kernel
theorem dX10_takesE_73 : decode cX10_takesE 73 = .ok (.aload_n 0, 1) := by decide +kernel
theorem dX10_takesE_74 : decode cX10_takesE 74 = .ok (.dup, 1) := by decide +kernel
theorem dX10_takesE_75 : decode cX10_takesE 75 = .ok (.getfield 83, 3) := by decide +kernel
theorem dX10_takesE_78 : decode cX10_takesE 78 = .ok (.iconst 1, 1) := by decide +kernel
theorem dX10_takesE_79 : decode cX10_takesE 79 = .ok (.iadd, 1) := by decide +kernel
theorem dX10_takesE_80 : decode cX10_takesE 80 = .ok (.putfield 83, 3) := by decide +kernel
theorem dX10_takesE_83 : decode cX10_takesE 83 = .ok (.aload_n 0, 1) := by decide +kernel
theorem dX10_takesE_84 : decode cX10_takesE 84 = .ok (.dup, 1) := by decide +kernel
theorem dX10_takesE_85 : decode cX10_takesE 85 = .ok (.getfield 50, 3) := by decide +kernel
theorem dX10_takesE_88 : decode cX10_takesE 88 = .ok (.iconst 1, 1) := by decide +kernel
theorem dX10_takesE_89 : decode cX10_takesE 89 = .ok (.iadd, 1) := by decide +kernel
theorem dX10_takesE_90 : decode cX10_takesE 90 = .ok (.putfield 50, 3) := by decide +kernel
theorem dX10_takesE_93 : decode cX10_takesE 93 = .ok (.goto (-71), 3) := by decide +kernel
theorem dX10_takesE_96 : decode cX10_takesE 96 = .ok (.aload_n 0, 1) := by decide +kernel
theorem dX10_takesE_97 : decode cX10_takesE 97 = .ok (.invokevirtual 273, 3) := by decide +kernel
theorem dX10_takesE_100 : decode cX10_takesE 100 = .ok (.ifCond .eq 8, 3) := by decide +kernel
theorem dX10_takesE_103 : decode cX10_takesE 103 = .ok (.iconst 0, 1) := by decide +kernel
theorem dX10_takesE_104 : decode cX10_takesE 104 = .ok (.istore_n 2, 1) := by decide +kernel
theorem dX10_takesE_105 : decode cX10_takesE 105 = .ok (.goto (-83), 3) := by decide +kernel
theorem dX10_takesE_108 : decode cX10_takesE 108 = .ok (.iconst 0, 1) := by decide +kernel
theorem dX10_takesE_109 : decode cX10_takesE 109 = .ok (.ireturn, 1) := by decide +kernel
theorem dX10_takesE_110 : decode cX10_takesE 110 = .ok (.iload_n 3, 1) := by decide +kernel
theorem dX10_takesE_111 : decode cX10_takesE 111 = .ok (.bipush 38, 2) := by decide +kernel
theorem dX10_takesE_113 : decode cX10_takesE 113 = .ok (.if_icmp .eq 9, 3) := by decide +kernel
theorem dX10_takesE_116 : decode cX10_takesE 116 = .ok (.iload_n 3, 1) := by decide +kernel
theorem dX10_takesE_117 : decode cX10_takesE 117 = .ok (.bipush 124, 2) := by decide +kernel
theorem dX10_takesE_119 : decode cX10_takesE 119 = .ok (.if_icmp .ne 43, 3) := by decide +kernel
theorem dX10_takesE_122 : decode cX10_takesE 122 = .ok (.aload_n 0, 1) := by decide +kernel
theorem dX10_takesE_123 : decode cX10_takesE 123 = .ok (.iload_n 3, 1) := by decide +kernel
theorem dX10_takesE_124 : decode cX10_takesE 124 = .ok (.invokevirtual 276, 3) := by decide +kernel
theorem dX10_takesE_127 : decode cX10_takesE 127 = .ok (.aload_n 0, 1) := by decide +kernel
theorem dX10_takesE_128 : decode cX10_takesE 128 = .ok (.getfield 77, 3) := by decide +kernel
theorem dX10_takesE_131 : decode cX10_takesE 131 = .ok (.aload_n 0, 1) := by decide +kernel
theorem dX10_takesE_132 : decode cX10_takesE 132 = .ok (.getfield 83, 3) := by decide +kernel
theorem dX10_takesE_135 : decode cX10_takesE 135 = .ok (.iload_n 3, 1) := by decide +kernel
theorem dX10_takesE_136 : decode cX10_takesE 136 = .ok (.iastore, 1) := by decide +kernel
theorem dX10_takesE_137 : decode cX10_takesE 137 = .ok (.aload_n 0, 1) := by decide +kernel
theorem dX10_takesE_138 : decode cX10_takesE 138 = .ok (.dup, 1) := by decide +kernel
theorem dX10_takesE_139 : decode cX10_takesE 139 = .ok (.getfield 83, 3) := by decide +kernel
theorem dX10_takesE_142 : decode cX10_takesE 142 = .ok (.iconst 1, 1) := by decide +kernel
theorem dX10_takesE_143 : decode cX10_takesE 143 = .ok (.iadd, 1) := by decide +kernel
theorem dX10_takesE_144 : decode cX10_takesE 144 = .ok (.putfield 83, 3) := by decide +kernel
theorem dX10_takesE_147 : decode cX10_takesE 147 = .ok (.iconst 1, 1) := by decide +kernel
theorem dX10_takesE_148 : decode cX10_takesE 148 = .ok (.istore_n 2, 1) := by decide +kernel
theorem dX10_takesE_149 : decode cX10_takesE 149 = .ok (.aload_n 0, 1) := by decide +kernel
theorem dX10_takesE_150 : decode cX10_takesE 150 = .ok (.dup, 1) := by decide +kernel
theorem dX10_takesE_151 : decode cX10_takesE 151 = .ok (.getfield 50, 3) := by decide +kernel
theorem dX10_takesE_154 : decode cX10_takesE 154 = .ok (.iconst 1, 1) := by decide +kernel
theorem dX10_takesE_155 : decode cX10_takesE 155 = .ok (.iadd, 1) := by decide +kernel
theorem dX10_takesE_156 : decode cX10_takesE 156 = .ok (.putfield 50, 3) := by decide +kernel
theorem dX10_takesE_159 : decode cX10_takesE 159 = .ok (.goto (-137), 3) := by decide +kernel
theorem dX10_takesE_162 : decode cX10_takesE 162 = .ok (.aload_n 0, 1) := by decide +kernel
theorem dX10_takesE_163 : decode cX10_takesE 163 = .ok (.bipush 124, 2) := by decide +kernel
theorem dX10_takesE_165 : decode cX10_takesE 165 = .ok (.invokevirtual 276, 3) := by decide +kernel
theorem dX10_takesE_168 : decode cX10_takesE 168 = .ok (.aload_n 0, 1) := by decide +kernel
theorem dX10_takesE_169 : decode cX10_takesE 169 = .ok (.getfield 71, 3) := by decide +kernel
theorem dX10_takesE_172 : decode cX10_takesE 172 = .ok (.iload_n 1, 1) := by decide +kernel
theorem dX10_takesE_173 : decode cX10_takesE 173 = .ok (.aload_n 0, 1) := by decide +kernel
theorem dX10_takesE_174 : decode cX10_takesE 174 = .ok (.getfield 80, 3) := by decide +kernel
theorem dX10_takesE_177 : decode cX10_takesE 177 = .ok (.iastore, 1) := by decide +kernel
theorem dX10_takesE_178 : decode cX10_takesE 178 = .ok (.aload_n 0, 1) := by decide +kernel
theorem dX10_takesE_179 : decode cX10_takesE 179 = .ok (.getfield 83, 3) := by decide +kernel
theorem dX10_takesE_182 : decode cX10_takesE 182 = .ok (.ifCond .ne 5, 3) := by decide +kernel
theorem dX10_takesE_185 : decode cX10_takesE 185 = .ok (.iconst 1, 1) := by decide +kernel
theorem dX10_takesE_186 : decode cX10_takesE 186 = .ok (.ireturn, 1) := by decide +kernel
theorem dX10_takesE_187 : decode cX10_takesE 187 = .ok (.iload_n 3, 1) := by decide +kernel
theorem dX10_takesE_188 : decode cX10_takesE 188 = .ok (.bipush 41, 2) := by decide +kernel
theorem dX10_takesE_190 : decode cX10_takesE 190 = .ok (.if_icmp .eq 5, 3) := by decide +kernel
theorem dX10_takesE_193 : decode cX10_takesE 193 = .ok (.iconst 0, 1) := by decide +kernel
theorem dX10_takesE_194 : decode cX10_takesE 194 = .ok (.ireturn, 1) := by decide +kernel
theorem dX10_takesE_195 : decode cX10_takesE 195 = .ok (.aload_n 0, 1) := by decide +kernel
theorem dX10_takesE_196 : decode cX10_takesE 196 = .ok (.dup, 1) := by decide +kernel
theorem dX10_takesE_197 : decode cX10_takesE 197 = .ok (.getfield 83, 3) := by decide +kernel
theorem dX10_takesE_200 : decode cX10_takesE 200 = .ok (.iconst 1, 1) := by decide +kernel
theorem dX10_takesE_201 : decode cX10_takesE 201 = .ok (.isub, 1) := by decide +kernel
theorem dX10_takesE_202 : decode cX10_takesE 202 = .ok (.putfield 83, 3) := by decide +kernel
theorem dX10_takesE_205 : decode cX10_takesE 205 = .ok (.aload_n 0, 1) := by decide +kernel
theorem dX10_takesE_206 : decode cX10_takesE 206 = .ok (.dup, 1) := by decide +kernel
theorem dX10_takesE_207 : decode cX10_takesE 207 = .ok (.getfield 86, 3) := by decide +kernel
theorem dX10_takesE_210 : decode cX10_takesE 210 = .ok (.iconst 1, 1) := by decide +kernel
theorem dX10_takesE_211 : decode cX10_takesE 211 = .ok (.isub, 1) := by decide +kernel
theorem dX10_takesE_212 : decode cX10_takesE 212 = .ok (.putfield 86, 3) := by decide +kernel
theorem dX10_takesE_215 : decode cX10_takesE 215 = .ok (.aload_n 0, 1) := by decide +kernel
theorem dX10_takesE_216 : decode cX10_takesE 216 = .ok (.dup, 1) := by decide +kernel
theorem dX10_takesE_217 : decode cX10_takesE 217 = .ok (.getfield 50, 3) := by decide +kernel
theorem dX10_takesE_220 : decode cX10_takesE 220 = .ok (.iconst 1, 1) := by decide +kernel
theorem dX10_takesE_221 : decode cX10_takesE 221 = .ok (.iadd, 1) := by decide +kernel
theorem dX10_takesE_222 : decode cX10_takesE 222 = .ok (.putfield 50, 3) := by decide +kernel
theorem dX10_takesE_225 : decode cX10_takesE 225 = .ok (.aload_n 0, 1) := by decide +kernel
theorem dX10_takesE_226 : decode cX10_takesE 226 = .ok (.invokevirtual 270, 3) := by decide +kernel
theorem dX10_takesE_229 : decode cX10_takesE 229 = .ok (.goto (-207), 3) := by decide +kernel
theorem dX10_takesHead_0 : decode cX10_takesHead 0 = .ok (.aload_n 0, 1) := by decide +kernel
theorem dX10_takesHead_1 : decode cX10_takesHead 1 = .ok (.invokevirtual 249, 3) := by decide +kernel
theorem dX10_takesHead_4 : decode cX10_takesHead 4 = .ok (.lookupswitch 56 #[(99, 42), (121, 28)], 28) := by decide +kernel
theorem dX10_takesHead_32 : decode cX10_takesHead 32 = .ok (.aload_n 0, 1) := by decide +kernel
theorem dX10_takesHead_33 : decode cX10_takesHead 33 = .ok (.getfield 62, 3) := by decide +kernel
theorem dX10_takesHead_36 : decode cX10_takesHead 36 = .ok (.iload_n 1, 1) := by decide +kernel
theorem dX10_takesHead_37 : decode cX10_takesHead 37 = .ok (.iconst 0, 1) := by decide +kernel
theorem dX10_takesHead_38 : decode cX10_takesHead 38 = .ok (.iastore, 1) := by decide +kernel
theorem dX10_takesHead_39 : decode cX10_takesHead 39 = .ok (.aload_n 0, 1) := by decide +kernel
theorem dX10_takesHead_40 : decode cX10_takesHead 40 = .ok (.iconst 0, 1) := by decide +kernel
theorem dX10_takesHead_41 : decode cX10_takesHead 41 = .ok (.iconst 5, 1) := by decide +kernel
theorem dX10_takesHead_42 : decode cX10_takesHead 42 = .ok (.invokevirtual 279, 3) := by decide +kernel
theorem dX10_takesHead_45 : decode cX10_takesHead 45 = .ok (.ireturn, 1) := by decide +kernel
theorem dX10_takesHead_46 : decode cX10_takesHead 46 = .ok (.aload_n 0, 1) := by decide +kernel
theorem dX10_takesHead_47 : decode cX10_takesHead 47 = .ok (.getfield 62, 3) := by decide +kernel
theorem dX10_takesHead_50 : decode cX10_takesHead 50 = .ok (.iload_n 1, 1) := by decide +kernel
theorem dX10_takesHead_51 : decode cX10_takesHead 51 = .ok (.iconst 1, 1) := by decide +kernel
theorem dX10_takesHead_52 : decode cX10_takesHead 52 = .ok (.iastore, 1) := by decide +kernel
theorem dX10_takesHead_53 : decode cX10_takesHead 53 = .ok (.aload_n 0, 1) := by decide +kernel
theorem dX10_takesHead_54 : decode cX10_takesHead 54 = .ok (.iconst 5, 1) := by decide +kernel
theorem dX10_takesHead_55 : decode cX10_takesHead 55 = .ok (.iconst 4, 1) := by decide +kernel
theorem dX10_takesHead_56 : decode cX10_takesHead 56 = .ok (.invokevirtual 279, 3) := by decide +kernel
theorem dX10_takesHead_59 : decode cX10_takesHead 59 = .ok (.ireturn, 1) := by decide +kernel
theorem dX10_takesHead_60 : decode cX10_takesHead 60 = .ok (.aload_n 0, 1) := by decide +kernel
theorem dX10_takesHead_61 : decode cX10_takesHead 61 = .ok (.getfield 62, 3) := by decide +kernel
theorem dX10_takesHead_64 : decode cX10_takesHead 64 = .ok (.iload_n 1, 1) := by decide +kernel
theorem dX10_takesHead_65 : decode cX10_takesHead 65 = .ok (.iconst 2, 1) := by decide +kernel
theorem dX10_takesHead_66 : decode cX10_takesHead 66 = .ok (.iastore, 1) := by decide +kernel
theorem dX10_takesHead_67 : decode cX10_takesHead 67 = .ok (.aload_n 0, 1) := by decide +kernel
theorem dX10_takesHead_68 : decode cX10_takesHead 68 = .ok (.bipush 9, 2) := by decide +kernel
theorem dX10_takesHead_70 : decode cX10_takesHead 70 = .ok (.iconst 4, 1) := by decide +kernel
theorem dX10_takesHead_71 : decode cX10_takesHead 71 = .ok (.invokevirtual 279, 3) := by decide +kernel
theorem dX10_takesHead_74 : decode cX10_takesHead 74 = .ok (.ireturn, 1) := by decide +kernel
theorem dX10_takesClause_0 : decode cX10_takesClause 0 = .ok (.aload_n 0, 1) := by decide +kernel
theorem dX10_takesClause_1 : decode cX10_takesClause 1 = .ok (.iload_n 1, 1) := by decide +kernel
theorem dX10_takesClause_2 : decode cX10_takesClause 2 = .ok (.invokevirtual 283, 3) := by decide +kernel
theorem dX10_takesClause_5 : decode cX10_takesClause 5 = .ok (.ifCond .eq 10, 3) := by decide +kernel
theorem dX10_takesClause_8 : decode cX10_takesClause 8 = .ok (.aload_n 0, 1) := by decide +kernel
theorem dX10_takesClause_9 : decode cX10_takesClause 9 = .ok (.invokevirtual 267, 3) := by decide +kernel
theorem dX10_takesClause_12 : decode cX10_takesClause 12 = .ok (.ifCond .ne 5, 3) := by decide +kernel
theorem dX10_takesClause_15 : decode cX10_takesClause 15 = .ok (.iconst 0, 1) := by decide +kernel
theorem dX10_takesClause_16 : decode cX10_takesClause 16 = .ok (.ireturn, 1) := by decide +kernel
theorem dX10_takesClause_17 : decode cX10_takesClause 17 = .ok (.aload_n 0, 1) := by decide +kernel
theorem dX10_takesClause_18 : decode cX10_takesClause 18 = .ok (.getfield 65, 3) := by decide +kernel
theorem dX10_takesClause_21 : decode cX10_takesClause 21 = .ok (.iload_n 1, 1) := by decide +kernel
theorem dX10_takesClause_22 : decode cX10_takesClause 22 = .ok (.aload_n 0, 1) := by decide +kernel
theorem dX10_takesClause_23 : decode cX10_takesClause 23 = .ok (.getfield 53, 3) := by decide +kernel
theorem dX10_takesClause_26 : decode cX10_takesClause 26 = .ok (.iastore, 1) := by decide +kernel
theorem dX10_takesClause_27 : decode cX10_takesClause 27 = .ok (.aload_n 0, 1) := by decide +kernel
theorem dX10_takesClause_28 : decode cX10_takesClause 28 = .ok (.getfield 62, 3) := by decide +kernel
theorem dX10_takesClause_31 : decode cX10_takesClause 31 = .ok (.iload_n 1, 1) := by decide +kernel
theorem dX10_takesClause_32 : decode cX10_takesClause 32 = .ok (.iaload, 1) := by decide +kernel
theorem dX10_takesClause_33 : decode cX10_takesClause 33 = .ok (.iconst 2, 1) := by decide +kernel
theorem dX10_takesClause_34 : decode cX10_takesClause 34 = .ok (.if_icmp .eq 20, 3) := by decide +kernel
theorem dX10_takesClause_37 : decode cX10_takesClause 37 = .ok (.aload_n 0, 1) := by decide +kernel
theorem dX10_takesClause_38 : decode cX10_takesClause 38 = .ok (.bipush 32, 2) := by decide +kernel
theorem dX10_takesClause_40 : decode cX10_takesClause 40 = .ok (.invokevirtual 253, 3) := by decide +kernel
theorem dX10_takesClause_43 : decode cX10_takesClause 43 = .ok (.ifCond .eq 15, 3) := by decide +kernel
theorem dX10_takesClause_46 : decode cX10_takesClause 46 = .ok (.aload_n 0, 1) := by decide +kernel
theorem dX10_takesClause_47 : decode cX10_takesClause 47 = .ok (.iload_n 1, 1) := by decide +kernel
theorem dX10_takesClause_48 : decode cX10_takesClause 48 = .ok (.invokevirtual 286, 3) := by decide +kernel
theorem dX10_takesClause_51 : decode cX10_takesClause 51 = .ok (.ifCond .eq 7, 3) := by decide +kernel
theorem dX10_takesClause_54 : decode cX10_takesClause 54 = .ok (.iconst 1, 1) := by decide +kernel
theorem dX10_takesClause_55 : decode cX10_takesClause 55 = .ok (.goto 4, 3) := by decide +kernel
theorem dX10_takesClause_58 : decode cX10_takesClause 58 = .ok (.iconst 0, 1) := by decide +kernel
theorem dX10_takesClause_59 : decode cX10_takesClause 59 = .ok (.ireturn, 1) := by decide +kernel
theorem dX10_goesText_0 : decode cX10_goesText 0 = .ok (.aload_n 0, 1) := by decide +kernel
theorem dX10_goesText_1 : decode cX10_goesText 1 = .ok (.iconst 0, 1) := by decide +kernel
theorem dX10_goesText_2 : decode cX10_goesText 2 = .ok (.putfield 50, 3) := by decide +kernel
theorem dX10_goesText_5 : decode cX10_goesText 5 = .ok (.aload_n 0, 1) := by decide +kernel
theorem dX10_goesText_6 : decode cX10_goesText 6 = .ok (.bipush 100, 2) := by decide +kernel
theorem dX10_goesText_8 : decode cX10_goesText 8 = .ok (.iload_n 1, 1) := by decide +kernel
theorem dX10_goesText_9 : decode cX10_goesText 9 = .ok (.imul, 1) := by decide +kernel
theorem dX10_goesText_10 : decode cX10_goesText 10 = .ok (.putfield 80, 3) := by decide +kernel
theorem dX10_goesText_13 : decode cX10_goesText 13 = .ok (.iconst 0, 1) := by decide +kernel
theorem dX10_goesText_14 : decode cX10_goesText 14 = .ok (.istore_n 2, 1) := by decide +kernel
theorem dX10_goesText_15 : decode cX10_goesText 15 = .ok (.aload_n 0, 1) := by decide +kernel
theorem dX10_goesText_16 : decode cX10_goesText 16 = .ok (.bipush 8, 2) := by decide +kernel
theorem dX10_goesText_18 : decode cX10_goesText 18 = .ok (.iload_n 1, 1) := by decide +kernel
theorem dX10_goesText_19 : decode cX10_goesText 19 = .ok (.imul, 1) := by decide +kernel
theorem dX10_goesText_20 : decode cX10_goesText 20 = .ok (.iload_n 2, 1) := by decide +kernel
theorem dX10_goesText_21 : decode cX10_goesText 21 = .ok (.iadd, 1) := by decide +kernel
theorem dX10_goesText_22 : decode cX10_goesText 22 = .ok (.invokevirtual 289, 3) := by decide +kernel
theorem dX10_goesText_25 : decode cX10_goesText 25 = .ok (.ifCond .ne 5, 3) := by decide +kernel
theorem dX10_goesText_28 : decode cX10_goesText 28 = .ok (.iconst 0, 1) := by decide +kernel
theorem dX10_goesText_29 : decode cX10_goesText 29 = .ok (.ireturn, 1) := by decide +kernel
theorem dX10_goesText_30 : decode cX10_goesText 30 = .ok (.iinc 2 1, 3) := by decide +kernel
theorem dX10_goesText_33 : decode cX10_goesText 33 = .ok (.aload_n 0, 1) := by decide +kernel
theorem dX10_goesText_34 : decode cX10_goesText 34 = .ok (.getfield 59, 3) := by decide +kernel
theorem dX10_goesText_37 : decode cX10_goesText 37 = .ok (.iload_n 1, 1) := by decide +kernel
theorem dX10_goesText_38 : decode cX10_goesText 38 = .ok (.iload_n 2, 1) := by decide +kernel
theorem dX10_goesText_39 : decode cX10_goesText 39 = .ok (.iastore, 1) := by decide +kernel
theorem dX10_goesText_40 : decode cX10_goesText 40 = .ok (.aload_n 0, 1) := by decide +kernel
theorem dX10_goesText_41 : decode cX10_goesText 41 = .ok (.getfield 50, 3) := by decide +kernel
theorem dX10_goesText_44 : decode cX10_goesText 44 = .ok (.aload_n 0, 1) := by decide +kernel
theorem dX10_goesText_45 : decode cX10_goesText 45 = .ok (.getfield 47, 3) := by decide +kernel
theorem dX10_goesText_48 : decode cX10_goesText 48 = .ok (.if_icmp .ne 5, 3) := by decide +kernel
theorem dX10_goesText_51 : decode cX10_goesText 51 = .ok (.iconst 1, 1) := by decide +kernel
theorem dX10_goesText_52 : decode cX10_goesText 52 = .ok (.ireturn, 1) := by decide +kernel
theorem dX10_goesText_53 : decode cX10_goesText 53 = .ok (.iload_n 2, 1) := by decide +kernel
theorem dX10_goesText_54 : decode cX10_goesText 54 = .ok (.bipush 8, 2) := by decide +kernel
theorem dX10_goesText_56 : decode cX10_goesText 56 = .ok (.if_icmp .eq 12, 3) := by decide +kernel
theorem dX10_goesText_59 : decode cX10_goesText 59 = .ok (.aload_n 0, 1) := by decide +kernel
theorem dX10_goesText_60 : decode cX10_goesText 60 = .ok (.bipush 59, 2) := by decide +kernel
theorem dX10_goesText_62 : decode cX10_goesText 62 = .ok (.invokevirtual 253, 3) := by decide +kernel
theorem dX10_goesText_65 : decode cX10_goesText 65 = .ok (.ifCond .ne (-50), 3) := by decide +kernel
theorem dX10_goesText_68 : decode cX10_goesText 68 = .ok (.iconst 0, 1) := by decide +kernel
theorem dX10_goesText_69 : decode cX10_goesText 69 = .ok (.ireturn, 1) := by decide +kernel
theorem dX10_ring_0 : decode cX10_ring 0 = .ok (.aload_n 0, 1) := by decide +kernel
theorem dX10_ring_1 : decode cX10_ring 1 = .ok (.getfield 41, 3) := by decide +kernel
theorem dX10_ring_4 : decode cX10_ring 4 = .ok (.bipush 6, 2) := by decide +kernel
theorem dX10_ring_6 : decode cX10_ring 6 = .ok (.if_icmp .ne 6, 3) := by decide +kernel
theorem dX10_ring_9 : decode cX10_ring 9 = .ok (.bipush (-4), 2) := by decide +kernel
theorem dX10_ring_11 : decode cX10_ring 11 = .ok (.ireturn, 1) := by decide +kernel
theorem dX10_ring_12 : decode cX10_ring 12 = .ok (.aload_n 0, 1) := by decide +kernel
theorem dX10_ring_13 : decode cX10_ring 13 = .ok (.aload_n 0, 1) := by decide +kernel
theorem dX10_ring_14 : decode cX10_ring 14 = .ok (.getfield 41, 3) := by decide +kernel
theorem dX10_ring_17 : decode cX10_ring 17 = .ok (.invokevirtual 292, 3) := by decide +kernel
theorem dX10_ring_20 : decode cX10_ring 20 = .ok (.istore_n 1, 1) := by decide +kernel
theorem dX10_ring_21 : decode cX10_ring 21 = .ok (.aload_n 0, 1) := by decide +kernel
theorem dX10_ring_22 : decode cX10_ring 22 = .ok (.iconst 0, 1) := by decide +kernel
theorem dX10_ring_23 : decode cX10_ring 23 = .ok (.putfield 47, 3) := by decide +kernel
theorem dX10_ring_26 : decode cX10_ring 26 = .ok (.iload_n 1, 1) := by decide +kernel
theorem dX10_ring_27 : decode cX10_ring 27 = .ok (.ifCond .ne 11, 3) := by decide +kernel
theorem dX10_ring_30 : decode cX10_ring 30 = .ok (.bipush (-10), 2) := by decide +kernel
theorem dX10_ring_32 : decode cX10_ring 32 = .ok (.aload_n 0, 1) := by decide +kernel
theorem dX10_ring_33 : decode cX10_ring 33 = .ok (.getfield 50, 3) := by decide +kernel
theorem dX10_ring_36 : decode cX10_ring 36 = .ok (.isub, 1) := by decide +kernel
theorem dX10_ring_37 : decode cX10_ring 37 = .ok (.ireturn, 1) := by decide +kernel
theorem dX10_ring_38 : decode cX10_ring 38 = .ok (.aload_n 0, 1) := by decide +kernel
theorem dX10_ring_39 : decode cX10_ring 39 = .ok (.aload_n 0, 1) := by decide +kernel
theorem dX10_ring_40 : decode cX10_ring 40 = .ok (.getfield 41, 3) := by decide +kernel
theorem dX10_ring_43 : decode cX10_ring 43 = .ok (.putfield 44, 3) := by decide +kernel
theorem dX10_ring_46 : decode cX10_ring 46 = .ok (.aload_n 0, 1) := by decide +kernel
theorem dX10_ring_47 : decode cX10_ring 47 = .ok (.dup, 1) := by decide +kernel
theorem dX10_ring_48 : decode cX10_ring 48 = .ok (.getfield 41, 3) := by decide +kernel
theorem dX10_ring_51 : decode cX10_ring 51 = .ok (.iconst 1, 1) := by decide +kernel
theorem dX10_ring_52 : decode cX10_ring 52 = .ok (.iadd, 1) := by decide +kernel
theorem dX10_ring_53 : decode cX10_ring 53 = .ok (.putfield 41, 3) := by decide +kernel
theorem dX10_ring_56 : decode cX10_ring 56 = .ok (.aload_n 0, 1) := by decide +kernel
theorem dX10_ring_57 : decode cX10_ring 57 = .ok (.getfield 44, 3) := by decide +kernel
theorem dX10_ring_60 : decode cX10_ring 60 = .ok (.ireturn, 1) := by decide +kernel
theorem dX10_first_0 : decode cX10_first 0 = .ok (.aload_n 0, 1) := by decide +kernel
theorem dX10_first_1 : decode cX10_first 1 = .ok (.getfield 44, 3) := by decide +kernel
theorem dX10_first_4 : decode cX10_first 4 = .ok (.ifCond .ge 7, 3) := by decide +kernel
theorem dX10_first_7 : decode cX10_first 7 = .ok (.iconst 0, 1) := by decide +kernel
theorem dX10_first_8 : decode cX10_first 8 = .ok (.goto 10, 3) := by decide +kernel
theorem dX10_first_11 : decode cX10_first 11 = .ok (.bipush 8, 2) := by decide +kernel
theorem dX10_first_13 : decode cX10_first 13 = .ok (.aload_n 0, 1) := by decide +kernel
theorem dX10_first_14 : decode cX10_first 14 = .ok (.getfield 44, 3) := by decide +kernel
theorem dX10_first_17 : decode cX10_first 17 = .ok (.imul, 1) := by decide +kernel
theorem dX10_first_18 : decode cX10_first 18 = .ok (.ireturn, 1) := by decide +kernel
theorem dX10_behind_0 : decode cX10_behind 0 = .ok (.aload_n 0, 1) := by decide +kernel
theorem dX10_behind_1 : decode cX10_behind 1 = .ok (.getfield 44, 3) := by decide +kernel
theorem dX10_behind_4 : decode cX10_behind 4 = .ok (.ifCond .ge 7, 3) := by decide +kernel
theorem dX10_behind_7 : decode cX10_behind 7 = .ok (.iconst 0, 1) := by decide +kernel
theorem dX10_behind_8 : decode cX10_behind 8 = .ok (.goto 20, 3) := by decide +kernel
theorem dX10_behind_11 : decode cX10_behind 11 = .ok (.bipush 8, 2) := by decide +kernel
theorem dX10_behind_13 : decode cX10_behind 13 = .ok (.aload_n 0, 1) := by decide +kernel
theorem dX10_behind_14 : decode cX10_behind 14 = .ok (.getfield 44, 3) := by decide +kernel
theorem dX10_behind_17 : decode cX10_behind 17 = .ok (.imul, 1) := by decide +kernel
theorem dX10_behind_18 : decode cX10_behind 18 = .ok (.aload_n 0, 1) := by decide +kernel
theorem dX10_behind_19 : decode cX10_behind 19 = .ok (.getfield 59, 3) := by decide +kernel
theorem dX10_behind_22 : decode cX10_behind 22 = .ok (.aload_n 0, 1) := by decide +kernel
theorem dX10_behind_23 : decode cX10_behind 23 = .ok (.getfield 44, 3) := by decide +kernel
theorem dX10_behind_26 : decode cX10_behind 26 = .ok (.iaload, 1) := by decide +kernel
theorem dX10_behind_27 : decode cX10_behind 27 = .ok (.iadd, 1) := by decide +kernel
theorem dX10_behind_28 : decode cX10_behind 28 = .ok (.ireturn, 1) := by decide +kernel
theorem dX10_loudOf_0 : decode cX10_loudOf 0 = .ok (.iconst 1, 1) := by decide +kernel
theorem dX10_loudOf_1 : decode cX10_loudOf 1 = .ok (.istore_n 1, 1) := by decide +kernel
theorem dX10_loudOf_2 : decode cX10_loudOf 2 = .ok (.aload_n 0, 1) := by decide +kernel
theorem dX10_loudOf_3 : decode cX10_loudOf 3 = .ok (.invokevirtual 295, 3) := by decide +kernel
theorem dX10_loudOf_6 : decode cX10_loudOf 6 = .ok (.istore_n 2, 1) := by decide +kernel
theorem dX10_loudOf_7 : decode cX10_loudOf 7 = .ok (.iload_n 2, 1) := by decide +kernel
theorem dX10_loudOf_8 : decode cX10_loudOf 8 = .ok (.aload_n 0, 1) := by decide +kernel
theorem dX10_loudOf_9 : decode cX10_loudOf 9 = .ok (.invokevirtual 298, 3) := by decide +kernel
theorem dX10_loudOf_12 : decode cX10_loudOf 12 = .ok (.if_icmp .ge 30, 3) := by decide +kernel
theorem dX10_loudOf_15 : decode cX10_loudOf 15 = .ok (.aload_n 0, 1) := by decide +kernel
theorem dX10_loudOf_16 : decode cX10_loudOf 16 = .ok (.getfield 62, 3) := by decide +kernel
theorem dX10_loudOf_19 : decode cX10_loudOf 19 = .ok (.iload_n 2, 1) := by decide +kernel
theorem dX10_loudOf_20 : decode cX10_loudOf 20 = .ok (.iaload, 1) := by decide +kernel
theorem dX10_loudOf_21 : decode cX10_loudOf 21 = .ok (.iconst 2, 1) := by decide +kernel
theorem dX10_loudOf_22 : decode cX10_loudOf 22 = .ok (.if_icmp .ne 12, 3) := by decide +kernel
theorem dX10_loudOf_25 : decode cX10_loudOf 25 = .ok (.aload_n 0, 1) := by decide +kernel
theorem dX10_loudOf_26 : decode cX10_loudOf 26 = .ok (.getfield 65, 3) := by decide +kernel
theorem dX10_loudOf_29 : decode cX10_loudOf 29 = .ok (.iload_n 2, 1) := by decide +kernel
theorem dX10_loudOf_30 : decode cX10_loudOf 30 = .ok (.iaload, 1) := by decide +kernel
theorem dX10_loudOf_31 : decode cX10_loudOf 31 = .ok (.goto 4, 3) := by decide +kernel
theorem dX10_loudOf_34 : decode cX10_loudOf 34 = .ok (.iload_n 1, 1) := by decide +kernel
theorem dX10_loudOf_35 : decode cX10_loudOf 35 = .ok (.istore_n 1, 1) := by decide +kernel
theorem dX10_loudOf_36 : decode cX10_loudOf 36 = .ok (.iinc 2 1, 3) := by decide +kernel
theorem dX10_loudOf_39 : decode cX10_loudOf 39 = .ok (.goto (-32), 3) := by decide +kernel
theorem dX10_loudOf_42 : decode cX10_loudOf 42 = .ok (.iload_n 1, 1) := by decide +kernel
theorem dX10_loudOf_43 : decode cX10_loudOf 43 = .ok (.ireturn, 1) := by decide +kernel
theorem dX10_asIs_0 : decode cX10_asIs 0 = .ok (.aload_n 0, 1) := by decide +kernel
theorem dX10_asIs_1 : decode cX10_asIs 1 = .ok (.aload_n 0, 1) := by decide +kernel
theorem dX10_asIs_2 : decode cX10_asIs 2 = .ok (.getfield 13, 3) := by decide +kernel
theorem dX10_asIs_5 : decode cX10_asIs 5 = .ok (.putfield 92, 3) := by decide +kernel
theorem dX10_asIs_8 : decode cX10_asIs 8 = .ok (.aload_n 0, 1) := by decide +kernel
theorem dX10_asIs_9 : decode cX10_asIs 9 = .ok (.aload_n 0, 1) := by decide +kernel
theorem dX10_asIs_10 : decode cX10_asIs 10 = .ok (.getfield 16, 3) := by decide +kernel
theorem dX10_asIs_13 : decode cX10_asIs 13 = .ok (.putfield 95, 3) := by decide +kernel
theorem dX10_asIs_16 : decode cX10_asIs 16 = .ok (.aload_n 0, 1) := by decide +kernel
theorem dX10_asIs_17 : decode cX10_asIs 17 = .ok (.iconst 0, 1) := by decide +kernel
theorem dX10_asIs_18 : decode cX10_asIs 18 = .ok (.putfield 98, 3) := by decide +kernel
theorem dX10_asIs_21 : decode cX10_asIs 21 = .ok (.iconst 0, 1) := by decide +kernel
theorem dX10_asIs_22 : decode cX10_asIs 22 = .ok (.istore_n 1, 1) := by decide +kernel
theorem dX10_asIs_23 : decode cX10_asIs 23 = .ok (.iload_n 1, 1) := by decide +kernel
theorem dX10_asIs_24 : decode cX10_asIs 24 = .ok (.bipush 6, 2) := by decide +kernel
theorem dX10_asIs_26 : decode cX10_asIs 26 = .ok (.if_icmp .ge 33, 3) := by decide +kernel
theorem dX10_asIs_29 : decode cX10_asIs 29 = .ok (.aload_n 0, 1) := by decide +kernel
theorem dX10_asIs_30 : decode cX10_asIs 30 = .ok (.getfield 101, 3) := by decide +kernel
theorem dX10_asIs_33 : decode cX10_asIs 33 = .ok (.iload_n 1, 1) := by decide +kernel
theorem dX10_asIs_34 : decode cX10_asIs 34 = .ok (.aload_n 0, 1) := by decide +kernel
theorem dX10_asIs_35 : decode cX10_asIs 35 = .ok (.getfield 29, 3) := by decide +kernel
theorem dX10_asIs_38 : decode cX10_asIs 38 = .ok (.iload_n 1, 1) := by decide +kernel
theorem dX10_asIs_39 : decode cX10_asIs 39 = .ok (.iaload, 1) := by decide +kernel
theorem dX10_asIs_40 : decode cX10_asIs 40 = .ok (.iastore, 1) := by decide +kernel
theorem dX10_asIs_41 : decode cX10_asIs 41 = .ok (.aload_n 0, 1) := by decide +kernel
theorem dX10_asIs_42 : decode cX10_asIs 42 = .ok (.getfield 104, 3) := by decide +kernel
theorem dX10_asIs_45 : decode cX10_asIs 45 = .ok (.iload_n 1, 1) := by decide +kernel
theorem dX10_asIs_46 : decode cX10_asIs 46 = .ok (.aload_n 0, 1) := by decide +kernel
theorem dX10_asIs_47 : decode cX10_asIs 47 = .ok (.getfield 22, 3) := by decide +kernel
theorem dX10_asIs_50 : decode cX10_asIs 50 = .ok (.iload_n 1, 1) := by decide +kernel
theorem dX10_asIs_51 : decode cX10_asIs 51 = .ok (.iaload, 1) := by decide +kernel
theorem dX10_asIs_52 : decode cX10_asIs 52 = .ok (.iastore, 1) := by decide +kernel
theorem dX10_asIs_53 : decode cX10_asIs 53 = .ok (.iinc 1 1, 3) := by decide +kernel
theorem dX10_asIs_56 : decode cX10_asIs 56 = .ok (.goto (-33), 3) := by decide +kernel
theorem dX10_asIs_59 : decode cX10_asIs 59 = .ok (.return_, 1) := by decide +kernel
theorem dX10_isTaken_0 : decode cX10_isTaken 0 = .ok (.iconst 0, 1) := by decide +kernel
theorem dX10_isTaken_1 : decode cX10_isTaken 1 = .ok (.istore_n 2, 1) := by decide +kernel
theorem dX10_isTaken_2 : decode cX10_isTaken 2 = .ok (.iload_n 2, 1) := by decide +kernel
theorem dX10_isTaken_3 : decode cX10_isTaken 3 = .ok (.aload_n 0, 1) := by decide +kernel
theorem dX10_isTaken_4 : decode cX10_isTaken 4 = .ok (.getfield 7, 3) := by decide +kernel
theorem dX10_isTaken_7 : decode cX10_isTaken 7 = .ok (.if_icmp .ge 21, 3) := by decide +kernel
theorem dX10_isTaken_10 : decode cX10_isTaken 10 = .ok (.aload_n 0, 1) := by decide +kernel
theorem dX10_isTaken_11 : decode cX10_isTaken 11 = .ok (.getfield 101, 3) := by decide +kernel
theorem dX10_isTaken_14 : decode cX10_isTaken 14 = .ok (.iload_n 2, 1) := by decide +kernel
theorem dX10_isTaken_15 : decode cX10_isTaken 15 = .ok (.iaload, 1) := by decide +kernel
theorem dX10_isTaken_16 : decode cX10_isTaken 16 = .ok (.iload_n 1, 1) := by decide +kernel
theorem dX10_isTaken_17 : decode cX10_isTaken 17 = .ok (.if_icmp .ne 5, 3) := by decide +kernel
theorem dX10_isTaken_20 : decode cX10_isTaken 20 = .ok (.iconst 1, 1) := by decide +kernel
theorem dX10_isTaken_21 : decode cX10_isTaken 21 = .ok (.ireturn, 1) := by decide +kernel
theorem dX10_isTaken_22 : decode cX10_isTaken 22 = .ok (.iinc 2 1, 3) := by decide +kernel
theorem dX10_isTaken_25 : decode cX10_isTaken 25 = .ok (.goto (-23), 3) := by decide +kernel
theorem dX10_isTaken_28 : decode cX10_isTaken 28 = .ok (.iconst 0, 1) := by decide +kernel
theorem dX10_isTaken_29 : decode cX10_isTaken 29 = .ok (.ireturn, 1) := by decide +kernel
theorem dX10_nearOf_0 : decode cX10_nearOf 0 = .ok (.iconst 0, 1) := by decide +kernel
theorem dX10_nearOf_1 : decode cX10_nearOf 1 = .ok (.istore_n 2, 1) := by decide +kernel
theorem dX10_nearOf_2 : decode cX10_nearOf 2 = .ok (.iconst 0, 1) := by decide +kernel
theorem dX10_nearOf_3 : decode cX10_nearOf 3 = .ok (.istore_n 3, 1) := by decide +kernel
theorem dX10_nearOf_4 : decode cX10_nearOf 4 = .ok (.iload_n 3, 1) := by decide +kernel
theorem dX10_nearOf_5 : decode cX10_nearOf 5 = .ok (.aload_n 0, 1) := by decide +kernel
theorem dX10_nearOf_6 : decode cX10_nearOf 6 = .ok (.getfield 7, 3) := by decide +kernel
theorem dX10_nearOf_9 : decode cX10_nearOf 9 = .ok (.if_icmp .ge 42, 3) := by decide +kernel
theorem dX10_nearOf_12 : decode cX10_nearOf 12 = .ok (.iload_n 2, 1) := by decide +kernel
theorem dX10_nearOf_13 : decode cX10_nearOf 13 = .ok (.iload_n 3, 1) := by decide +kernel
theorem dX10_nearOf_14 : decode cX10_nearOf 14 = .ok (.iload_n 1, 1) := by decide +kernel
theorem dX10_nearOf_15 : decode cX10_nearOf 15 = .ok (.if_icmp .eq 27, 3) := by decide +kernel
theorem dX10_nearOf_18 : decode cX10_nearOf 18 = .ok (.aload_n 0, 1) := by decide +kernel
theorem dX10_nearOf_19 : decode cX10_nearOf 19 = .ok (.aload_n 0, 1) := by decide +kernel
theorem dX10_nearOf_20 : decode cX10_nearOf 20 = .ok (.getfield 101, 3) := by decide +kernel
theorem dX10_nearOf_23 : decode cX10_nearOf 23 = .ok (.iload_n 3, 1) := by decide +kernel
theorem dX10_nearOf_24 : decode cX10_nearOf 24 = .ok (.iaload, 1) := by decide +kernel
theorem dX10_nearOf_25 : decode cX10_nearOf 25 = .ok (.aload_n 0, 1) := by decide +kernel
theorem dX10_nearOf_26 : decode cX10_nearOf 26 = .ok (.getfield 101, 3) := by decide +kernel
theorem dX10_nearOf_29 : decode cX10_nearOf 29 = .ok (.iload_n 1, 1) := by decide +kernel
theorem dX10_nearOf_30 : decode cX10_nearOf 30 = .ok (.iaload, 1) := by decide +kernel
theorem dX10_nearOf_31 : decode cX10_nearOf 31 = .ok (.invokevirtual 301, 3) := by decide +kernel
theorem dX10_nearOf_34 : decode cX10_nearOf 34 = .ok (.iconst 2, 1) := by decide +kernel
theorem dX10_nearOf_35 : decode cX10_nearOf 35 = .ok (.if_icmp .gt 7, 3) := by decide +kernel
theorem dX10_nearOf_38 : decode cX10_nearOf 38 = .ok (.iconst 1, 1) := by decide +kernel
theorem dX10_nearOf_39 : decode cX10_nearOf 39 = .ok (.goto 4, 3) := by decide +kernel
theorem dX10_nearOf_42 : decode cX10_nearOf 42 = .ok (.iconst 0, 1) := by decide +kernel
theorem dX10_nearOf_43 : decode cX10_nearOf 43 = .ok (.iadd, 1) := by decide +kernel
theorem dX10_nearOf_44 : decode cX10_nearOf 44 = .ok (.istore_n 2, 1) := by decide +kernel
theorem dX10_nearOf_45 : decode cX10_nearOf 45 = .ok (.iinc 3 1, 3) := by decide +kernel
theorem dX10_nearOf_48 : decode cX10_nearOf 48 = .ok (.goto (-44), 3) := by decide +kernel
theorem dX10_nearOf_51 : decode cX10_nearOf 51 = .ok (.iload_n 2, 1) := by decide +kernel
theorem dX10_nearOf_52 : decode cX10_nearOf 52 = .ok (.ireturn, 1) := by decide +kernel
theorem dX10_closedOf_0 : decode cX10_closedOf 0 = .ok (.iconst 0, 1) := by decide +kernel
theorem dX10_closedOf_1 : decode cX10_closedOf 1 = .ok (.istore_n 2, 1) := by decide +kernel
theorem dX10_closedOf_2 : decode cX10_closedOf 2 = .ok (.iconst 0, 1) := by decide +kernel
theorem dX10_closedOf_3 : decode cX10_closedOf 3 = .ok (.istore_n 3, 1) := by decide +kernel
theorem dX10_closedOf_4 : decode cX10_closedOf 4 = .ok (.iload_n 3, 1) := by decide +kernel
theorem dX10_closedOf_5 : decode cX10_closedOf 5 = .ok (.iconst 4, 1) := by decide +kernel
theorem dX10_closedOf_6 : decode cX10_closedOf 6 = .ok (.if_icmp .ge 44, 3) := by decide +kernel
theorem dX10_closedOf_9 : decode cX10_closedOf 9 = .ok (.aload_n 0, 1) := by decide +kernel
theorem dX10_closedOf_10 : decode cX10_closedOf 10 = .ok (.aload_n 0, 1) := by decide +kernel
theorem dX10_closedOf_11 : decode cX10_closedOf 11 = .ok (.getfield 101, 3) := by decide +kernel
theorem dX10_closedOf_14 : decode cX10_closedOf 14 = .ok (.iload_n 1, 1) := by decide +kernel
theorem dX10_closedOf_15 : decode cX10_closedOf 15 = .ok (.iaload, 1) := by decide +kernel
theorem dX10_closedOf_16 : decode cX10_closedOf 16 = .ok (.iload_n 3, 1) := by decide +kernel
theorem dX10_closedOf_17 : decode cX10_closedOf 17 = .ok (.invokevirtual 304, 3) := by decide +kernel
theorem dX10_closedOf_20 : decode cX10_closedOf 20 = .ok (.istore 4, 2) := by decide +kernel
theorem dX10_closedOf_22 : decode cX10_closedOf 22 = .ok (.iload_n 2, 1) := by decide +kernel
theorem dX10_closedOf_23 : decode cX10_closedOf 23 = .ok (.iload 4, 2) := by decide +kernel
theorem dX10_closedOf_25 : decode cX10_closedOf 25 = .ok (.ifCond .lt 12, 3) := by decide +kernel
theorem dX10_closedOf_28 : decode cX10_closedOf 28 = .ok (.aload_n 0, 1) := by decide +kernel
theorem dX10_closedOf_29 : decode cX10_closedOf 29 = .ok (.iload 4, 2) := by decide +kernel
theorem dX10_closedOf_31 : decode cX10_closedOf 31 = .ok (.invokevirtual 307, 3) := by decide +kernel
theorem dX10_closedOf_34 : decode cX10_closedOf 34 = .ok (.ifCond .eq 7, 3) := by decide +kernel
theorem dX10_closedOf_37 : decode cX10_closedOf 37 = .ok (.iconst 1, 1) := by decide +kernel
theorem dX10_closedOf_38 : decode cX10_closedOf 38 = .ok (.goto 4, 3) := by decide +kernel
theorem dX10_closedOf_41 : decode cX10_closedOf 41 = .ok (.iconst 0, 1) := by decide +kernel
theorem dX10_closedOf_42 : decode cX10_closedOf 42 = .ok (.iadd, 1) := by decide +kernel
theorem dX10_closedOf_43 : decode cX10_closedOf 43 = .ok (.istore_n 2, 1) := by decide +kernel
theorem dX10_closedOf_44 : decode cX10_closedOf 44 = .ok (.iinc 3 1, 3) := by decide +kernel
theorem dX10_closedOf_47 : decode cX10_closedOf 47 = .ok (.goto (-43), 3) := by decide +kernel
theorem dX10_closedOf_50 : decode cX10_closedOf 50 = .ok (.iload_n 2, 1) := by decide +kernel
theorem dX10_closedOf_51 : decode cX10_closedOf 51 = .ok (.ireturn, 1) := by decide +kernel
theorem dX10_factOf_0 : decode cX10_factOf 0 = .ok (.iload_n 1, 1) := by decide +kernel
theorem dX10_factOf_1 : decode cX10_factOf 1 = .ok (.tableswitch 50 0 3 #[31, 33, 40, 45], 31) := by decide +kernel
theorem dX10_factOf_32 : decode cX10_factOf 32 = .ok (.iload_n 2, 1) := by decide +kernel
theorem dX10_factOf_33 : decode cX10_factOf 33 = .ok (.ireturn, 1) := by decide +kernel
theorem dX10_factOf_34 : decode cX10_factOf 34 = .ok (.aload_n 0, 1) := by decide +kernel
theorem dX10_factOf_35 : decode cX10_factOf 35 = .ok (.getfield 35, 3) := by decide +kernel
theorem dX10_factOf_38 : decode cX10_factOf 38 = .ok (.iload_n 2, 1) := by decide +kernel
theorem dX10_factOf_39 : decode cX10_factOf 39 = .ok (.iaload, 1) := by decide +kernel
theorem dX10_factOf_40 : decode cX10_factOf 40 = .ok (.ireturn, 1) := by decide +kernel
theorem dX10_factOf_41 : decode cX10_factOf 41 = .ok (.aload_n 0, 1) := by decide +kernel
theorem dX10_factOf_42 : decode cX10_factOf 42 = .ok (.getfield 111, 3) := by decide +kernel
theorem dX10_factOf_45 : decode cX10_factOf 45 = .ok (.ireturn, 1) := by decide +kernel
theorem dX10_factOf_46 : decode cX10_factOf 46 = .ok (.aload_n 0, 1) := by decide +kernel
theorem dX10_factOf_47 : decode cX10_factOf 47 = .ok (.getfield 114, 3) := by decide +kernel
theorem dX10_factOf_50 : decode cX10_factOf 50 = .ok (.ireturn, 1) := by decide +kernel
theorem dX10_factOf_51 : decode cX10_factOf 51 = .ok (.aload_n 0, 1) := by decide +kernel
theorem dX10_factOf_52 : decode cX10_factOf 52 = .ok (.getfield 95, 3) := by decide +kernel
theorem dX10_factOf_55 : decode cX10_factOf 55 = .ok (.bipush 60, 2) := by decide +kernel
theorem dX10_factOf_57 : decode cX10_factOf 57 = .ok (.irem, 1) := by decide +kernel
theorem dX10_factOf_58 : decode cX10_factOf 58 = .ok (.ireturn, 1) := by decide +kernel
theorem dX10_holds_0 : decode cX10_holds 0 = .ok (.iconst 0, 1) := by decide +kernel
theorem dX10_holds_1 : decode cX10_holds 1 = .ok (.istore_n 3, 1) := by decide +kernel
theorem dX10_holds_2 : decode cX10_holds 2 = .ok (.aload_n 0, 1) := by decide +kernel
theorem dX10_holds_3 : decode cX10_holds 3 = .ok (.getfield 68, 3) := by decide +kernel
theorem dX10_holds_6 : decode cX10_holds 6 = .ok (.iload_n 1, 1) := by decide +kernel
theorem dX10_holds_7 : decode cX10_holds 7 = .ok (.iaload, 1) := by decide +kernel
theorem dX10_holds_8 : decode cX10_holds 8 = .ok (.istore 4, 2) := by decide +kernel
theorem dX10_holds_10 : decode cX10_holds 10 = .ok (.iload 4, 2) := by decide +kernel
theorem dX10_holds_12 : decode cX10_holds 12 = .ok (.aload_n 0, 1) := by decide +kernel
theorem dX10_holds_13 : decode cX10_holds 13 = .ok (.getfield 71, 3) := by decide +kernel
theorem dX10_holds_16 : decode cX10_holds 16 = .ok (.iload_n 1, 1) := by decide +kernel
theorem dX10_holds_17 : decode cX10_holds 17 = .ok (.iaload, 1) := by decide +kernel
theorem dX10_holds_18 : decode cX10_holds 18 = .ok (.if_icmp .ge 225, 3) := by decide +kernel
theorem dX10_holds_21 : decode cX10_holds 21 = .ok (.aload_n 0, 1) := by decide +kernel
theorem dX10_holds_22 : decode cX10_holds 22 = .ok (.getfield 74, 3) := by decide +kernel
theorem dX10_holds_25 : decode cX10_holds 25 = .ok (.iload 4, 2) := by decide +kernel
theorem dX10_holds_27 : decode cX10_holds 27 = .ok (.iaload, 1) := by decide +kernel
theorem dX10_holds_28 : decode cX10_holds 28 = .ok (.istore 5, 2) := by decide +kernel
theorem dX10_holds_30 : decode cX10_holds 30 = .ok (.iload 5, 2) := by decide +kernel
theorem dX10_holds_32 : decode cX10_holds 32 = .ok (.bipush (-33), 2) := by decide +kernel
theorem dX10_holds_34 : decode cX10_holds 34 = .ok (.if_icmp .ne 30, 3) := by decide +kernel
theorem dX10_holds_37 : decode cX10_holds 37 = .ok (.aload_n 0, 1) := by decide +kernel
theorem dX10_holds_38 : decode cX10_holds 38 = .ok (.getfield 107, 3) := by decide +kernel
theorem dX10_holds_41 : decode cX10_holds 41 = .ok (.iload_n 3, 1) := by decide +kernel
theorem dX10_holds_42 : decode cX10_holds 42 = .ok (.iconst 1, 1) := by decide +kernel
theorem dX10_holds_43 : decode cX10_holds 43 = .ok (.isub, 1) := by decide +kernel
theorem dX10_holds_44 : decode cX10_holds 44 = .ok (.aload_n 0, 1) := by decide +kernel
theorem dX10_holds_45 : decode cX10_holds 45 = .ok (.getfield 107, 3) := by decide +kernel
theorem dX10_holds_48 : decode cX10_holds 48 = .ok (.iload_n 3, 1) := by decide +kernel
theorem dX10_holds_49 : decode cX10_holds 49 = .ok (.iconst 1, 1) := by decide +kernel
theorem dX10_holds_50 : decode cX10_holds 50 = .ok (.isub, 1) := by decide +kernel
theorem dX10_holds_51 : decode cX10_holds 51 = .ok (.baload, 1) := by decide +kernel
theorem dX10_holds_52 : decode cX10_holds 52 = .ok (.ifCond .ne 7, 3) := by decide +kernel
theorem dX10_holds_55 : decode cX10_holds 55 = .ok (.iconst 1, 1) := by decide +kernel
theorem dX10_holds_56 : decode cX10_holds 56 = .ok (.goto 4, 3) := by decide +kernel
theorem dX10_holds_59 : decode cX10_holds 59 = .ok (.iconst 0, 1) := by decide +kernel
theorem dX10_holds_60 : decode cX10_holds 60 = .ok (.bastore, 1) := by decide +kernel
theorem dX10_holds_61 : decode cX10_holds 61 = .ok (.goto 176, 3) := by decide +kernel
theorem dX10_holds_64 : decode cX10_holds 64 = .ok (.iload 5, 2) := by decide +kernel
theorem dX10_holds_66 : decode cX10_holds 66 = .ok (.ifCond .ge 77, 3) := by decide +kernel
theorem dX10_holds_69 : decode cX10_holds 69 = .ok (.iinc 3 (-1), 3) := by decide +kernel
theorem dX10_holds_72 : decode cX10_holds 72 = .ok (.aload_n 0, 1) := by decide +kernel
theorem dX10_holds_73 : decode cX10_holds 73 = .ok (.getfield 107, 3) := by decide +kernel
theorem dX10_holds_76 : decode cX10_holds 76 = .ok (.iload_n 3, 1) := by decide +kernel
theorem dX10_holds_77 : decode cX10_holds 77 = .ok (.iconst 1, 1) := by decide +kernel
theorem dX10_holds_78 : decode cX10_holds 78 = .ok (.isub, 1) := by decide +kernel
theorem dX10_holds_79 : decode cX10_holds 79 = .ok (.iload 5, 2) := by decide +kernel
theorem dX10_holds_81 : decode cX10_holds 81 = .ok (.bipush (-38), 2) := by decide +kernel
theorem dX10_holds_83 : decode cX10_holds 83 = .ok (.if_icmp .ne 31, 3) := by decide +kernel
theorem dX10_holds_86 : decode cX10_holds 86 = .ok (.aload_n 0, 1) := by decide +kernel
theorem dX10_holds_87 : decode cX10_holds 87 = .ok (.getfield 107, 3) := by decide +kernel
theorem dX10_holds_90 : decode cX10_holds 90 = .ok (.iload_n 3, 1) := by decide +kernel
theorem dX10_holds_91 : decode cX10_holds 91 = .ok (.iconst 1, 1) := by decide +kernel
theorem dX10_holds_92 : decode cX10_holds 92 = .ok (.isub, 1) := by decide +kernel
theorem dX10_holds_93 : decode cX10_holds 93 = .ok (.baload, 1) := by decide +kernel
theorem dX10_holds_94 : decode cX10_holds 94 = .ok (.ifCond .eq 16, 3) := by decide +kernel
theorem dX10_holds_97 : decode cX10_holds 97 = .ok (.aload_n 0, 1) := by decide +kernel
theorem dX10_holds_98 : decode cX10_holds 98 = .ok (.getfield 107, 3) := by decide +kernel
theorem dX10_holds_101 : decode cX10_holds 101 = .ok (.iload_n 3, 1) := by decide +kernel
theorem dX10_holds_102 : decode cX10_holds 102 = .ok (.baload, 1) := by decide +kernel
theorem dX10_holds_103 : decode cX10_holds 103 = .ok (.ifCond .eq 7, 3) := by decide +kernel
theorem dX10_holds_106 : decode cX10_holds 106 = .ok (.iconst 1, 1) := by decide +kernel
theorem dX10_holds_107 : decode cX10_holds 107 = .ok (.goto 32, 3) := by decide +kernel
theorem dX10_holds_110 : decode cX10_holds 110 = .ok (.iconst 0, 1) := by decide +kernel
theorem dX10_holds_111 : decode cX10_holds 111 = .ok (.goto 28, 3) := by decide +kernel
theorem dX10_holds_114 : decode cX10_holds 114 = .ok (.aload_n 0, 1) := by decide +kernel
theorem dX10_holds_115 : decode cX10_holds 115 = .ok (.getfield 107, 3) := by decide +kernel
theorem dX10_holds_118 : decode cX10_holds 118 = .ok (.iload_n 3, 1) := by decide +kernel
theorem dX10_holds_119 : decode cX10_holds 119 = .ok (.iconst 1, 1) := by decide +kernel
theorem dX10_holds_120 : decode cX10_holds 120 = .ok (.isub, 1) := by decide +kernel
theorem dX10_holds_121 : decode cX10_holds 121 = .ok (.baload, 1) := by decide +kernel
theorem dX10_holds_122 : decode cX10_holds 122 = .ok (.ifCond .ne 12, 3) := by decide +kernel
theorem dX10_holds_125 : decode cX10_holds 125 = .ok (.aload_n 0, 1) := by decide +kernel
theorem dX10_holds_126 : decode cX10_holds 126 = .ok (.getfield 107, 3) := by decide +kernel
theorem dX10_holds_129 : decode cX10_holds 129 = .ok (.iload_n 3, 1) := by decide +kernel
theorem dX10_holds_130 : decode cX10_holds 130 = .ok (.baload, 1) := by decide +kernel
theorem dX10_holds_131 : decode cX10_holds 131 = .ok (.ifCond .eq 7, 3) := by decide +kernel
theorem dX10_holds_134 : decode cX10_holds 134 = .ok (.iconst 1, 1) := by decide +kernel
theorem dX10_holds_135 : decode cX10_holds 135 = .ok (.goto 4, 3) := by decide +kernel
theorem dX10_holds_138 : decode cX10_holds 138 = .ok (.iconst 0, 1) := by decide +kernel
theorem dX10_holds_139 : decode cX10_holds 139 = .ok (.bastore, 1) := by decide +kernel
theorem dX10_holds_140 : decode cX10_holds 140 = .ok (.goto 97, 3) := by decide +kernel
theorem dX10_holds_143 : decode cX10_holds 143 = .ok (.aload_n 0, 1) := by decide +kernel
theorem dX10_holds_144 : decode cX10_holds 144 = .ok (.iload 5, 2) := by decide +kernel
theorem dX10_holds_146 : decode cX10_holds 146 = .ok (.sipush 1000, 3) := by decide +kernel
theorem dX10_holds_149 : decode cX10_holds 149 = .ok (.idiv, 1) := by decide +kernel
theorem dX10_holds_150 : decode cX10_holds 150 = .ok (.iload_n 2, 1) := by decide +kernel
theorem dX10_holds_151 : decode cX10_holds 151 = .ok (.invokevirtual 310, 3) := by decide +kernel
theorem dX10_holds_154 : decode cX10_holds 154 = .ok (.istore 6, 2) := by decide +kernel
theorem dX10_holds_156 : decode cX10_holds 156 = .ok (.iload 5, 2) := by decide +kernel
theorem dX10_holds_158 : decode cX10_holds 158 = .ok (.bipush 100, 2) := by decide +kernel
theorem dX10_holds_160 : decode cX10_holds 160 = .ok (.idiv, 1) := by decide +kernel
theorem dX10_holds_161 : decode cX10_holds 161 = .ok (.bipush 10, 2) := by decide +kernel
theorem dX10_holds_163 : decode cX10_holds 163 = .ok (.irem, 1) := by decide +kernel
theorem dX10_holds_164 : decode cX10_holds 164 = .ok (.istore 7, 2) := by decide +kernel
theorem dX10_holds_166 : decode cX10_holds 166 = .ok (.aload_n 0, 1) := by decide +kernel
theorem dX10_holds_167 : decode cX10_holds 167 = .ok (.getfield 107, 3) := by decide +kernel
theorem dX10_holds_170 : decode cX10_holds 170 = .ok (.iload_n 3, 1) := by decide +kernel
theorem dX10_holds_171 : decode cX10_holds 171 = .ok (.iload 7, 2) := by decide +kernel
theorem dX10_holds_173 : decode cX10_holds 173 = .ok (.ifCond .ne 21, 3) := by decide +kernel
theorem dX10_holds_176 : decode cX10_holds 176 = .ok (.iload 6, 2) := by decide +kernel
theorem dX10_holds_178 : decode cX10_holds 178 = .ok (.iload 5, 2) := by decide +kernel
theorem dX10_holds_180 : decode cX10_holds 180 = .ok (.bipush 100, 2) := by decide +kernel
theorem dX10_holds_182 : decode cX10_holds 182 = .ok (.irem, 1) := by decide +kernel
theorem dX10_holds_183 : decode cX10_holds 183 = .ok (.if_icmp .ge 7, 3) := by decide +kernel
theorem dX10_holds_186 : decode cX10_holds 186 = .ok (.iconst 1, 1) := by decide +kernel
theorem dX10_holds_187 : decode cX10_holds 187 = .ok (.goto 46, 3) := by decide +kernel
theorem dX10_holds_190 : decode cX10_holds 190 = .ok (.iconst 0, 1) := by decide +kernel
theorem dX10_holds_191 : decode cX10_holds 191 = .ok (.goto 42, 3) := by decide +kernel
theorem dX10_holds_194 : decode cX10_holds 194 = .ok (.iload 7, 2) := by decide +kernel
theorem dX10_holds_196 : decode cX10_holds 196 = .ok (.iconst 1, 1) := by decide +kernel
theorem dX10_holds_197 : decode cX10_holds 197 = .ok (.if_icmp .ne 21, 3) := by decide +kernel
theorem dX10_holds_200 : decode cX10_holds 200 = .ok (.iload 6, 2) := by decide +kernel
theorem dX10_holds_202 : decode cX10_holds 202 = .ok (.iload 5, 2) := by decide +kernel
theorem dX10_holds_204 : decode cX10_holds 204 = .ok (.bipush 100, 2) := by decide +kernel
theorem dX10_holds_206 : decode cX10_holds 206 = .ok (.irem, 1) := by decide +kernel
theorem dX10_holds_207 : decode cX10_holds 207 = .ok (.if_icmp .ne 7, 3) := by decide +kernel
theorem dX10_holds_210 : decode cX10_holds 210 = .ok (.iconst 1, 1) := by decide +kernel
theorem dX10_holds_211 : decode cX10_holds 211 = .ok (.goto 22, 3) := by decide +kernel
theorem dX10_holds_214 : decode cX10_holds 214 = .ok (.iconst 0, 1) := by decide +kernel
theorem dX10_holds_215 : decode cX10_holds 215 = .ok (.goto 18, 3) := by decide +kernel
theorem dX10_holds_218 : decode cX10_holds 218 = .ok (.iload 6, 2) := by decide +kernel
theorem dX10_holds_220 : decode cX10_holds 220 = .ok (.iload 5, 2) := by decide +kernel
theorem dX10_holds_222 : decode cX10_holds 222 = .ok (.bipush 100, 2) := by decide +kernel
theorem dX10_holds_224 : decode cX10_holds 224 = .ok (.irem, 1) := by decide +kernel
theorem dX10_holds_225 : decode cX10_holds 225 = .ok (.if_icmp .le 7, 3) := by decide +kernel
theorem dX10_holds_228 : decode cX10_holds 228 = .ok (.iconst 1, 1) := by decide +kernel
theorem dX10_holds_229 : decode cX10_holds 229 = .ok (.goto 4, 3) := by decide +kernel
theorem dX10_holds_232 : decode cX10_holds 232 = .ok (.iconst 0, 1) := by decide +kernel
theorem dX10_holds_233 : decode cX10_holds 233 = .ok (.bastore, 1) := by decide +kernel
theorem dX10_holds_234 : decode cX10_holds 234 = .ok (.iinc 3 1, 3) := by decide +kernel
theorem dX10_holds_237 : decode cX10_holds 237 = .ok (.iinc 4 1, 3) := by decide +kernel
theorem dX10_holds_240 : decode cX10_holds 240 = .ok (.goto (-230), 3) := by decide +kernel
theorem dX10_holds_243 : decode cX10_holds 243 = .ok (.aload_n 0, 1) := by decide +kernel
theorem dX10_holds_244 : decode cX10_holds 244 = .ok (.getfield 107, 3) := by decide +kernel
theorem dX10_holds_247 : decode cX10_holds 247 = .ok (.iconst 0, 1) := by decide +kernel
theorem dX10_holds_248 : decode cX10_holds 248 = .ok (.baload, 1) := by decide +kernel
theorem dX10_holds_249 : decode cX10_holds 249 = .ok (.ireturn, 1) := by decide +kernel
theorem dX10_sumOf_0 : decode cX10_sumOf 0 = .ok (.iconst 0, 1) := by decide +kernel
theorem dX10_sumOf_1 : decode cX10_sumOf 1 = .ok (.istore_n 3, 1) := by decide +kernel
theorem dX10_sumOf_2 : decode cX10_sumOf 2 = .ok (.aload_n 0, 1) := by decide +kernel
theorem dX10_sumOf_3 : decode cX10_sumOf 3 = .ok (.invokevirtual 295, 3) := by decide +kernel
theorem dX10_sumOf_6 : decode cX10_sumOf 6 = .ok (.istore 4, 2) := by decide +kernel
theorem dX10_sumOf_8 : decode cX10_sumOf 8 = .ok (.iload 4, 2) := by decide +kernel
theorem dX10_sumOf_10 : decode cX10_sumOf 10 = .ok (.aload_n 0, 1) := by decide +kernel
theorem dX10_sumOf_11 : decode cX10_sumOf 11 = .ok (.invokevirtual 298, 3) := by decide +kernel
theorem dX10_sumOf_14 : decode cX10_sumOf 14 = .ok (.if_icmp .ge 44, 3) := by decide +kernel
theorem dX10_sumOf_17 : decode cX10_sumOf 17 = .ok (.iload_n 3, 1) := by decide +kernel
theorem dX10_sumOf_18 : decode cX10_sumOf 18 = .ok (.aload_n 0, 1) := by decide +kernel
theorem dX10_sumOf_19 : decode cX10_sumOf 19 = .ok (.getfield 62, 3) := by decide +kernel
theorem dX10_sumOf_22 : decode cX10_sumOf 22 = .ok (.iload 4, 2) := by decide +kernel
theorem dX10_sumOf_24 : decode cX10_sumOf 24 = .ok (.iaload, 1) := by decide +kernel
theorem dX10_sumOf_25 : decode cX10_sumOf 25 = .ok (.iload_n 1, 1) := by decide +kernel
theorem dX10_sumOf_26 : decode cX10_sumOf 26 = .ok (.if_icmp .ne 23, 3) := by decide +kernel
theorem dX10_sumOf_29 : decode cX10_sumOf 29 = .ok (.aload_n 0, 1) := by decide +kernel
theorem dX10_sumOf_30 : decode cX10_sumOf 30 = .ok (.iload 4, 2) := by decide +kernel
theorem dX10_sumOf_32 : decode cX10_sumOf 32 = .ok (.iload_n 2, 1) := by decide +kernel
theorem dX10_sumOf_33 : decode cX10_sumOf 33 = .ok (.invokevirtual 313, 3) := by decide +kernel
theorem dX10_sumOf_36 : decode cX10_sumOf 36 = .ok (.ifCond .eq 13, 3) := by decide +kernel
theorem dX10_sumOf_39 : decode cX10_sumOf 39 = .ok (.aload_n 0, 1) := by decide +kernel
theorem dX10_sumOf_40 : decode cX10_sumOf 40 = .ok (.getfield 65, 3) := by decide +kernel
theorem dX10_sumOf_43 : decode cX10_sumOf 43 = .ok (.iload 4, 2) := by decide +kernel
theorem dX10_sumOf_45 : decode cX10_sumOf 45 = .ok (.iaload, 1) := by decide +kernel
theorem dX10_sumOf_46 : decode cX10_sumOf 46 = .ok (.goto 4, 3) := by decide +kernel
theorem dX10_sumOf_49 : decode cX10_sumOf 49 = .ok (.iconst 0, 1) := by decide +kernel
theorem dX10_sumOf_50 : decode cX10_sumOf 50 = .ok (.iadd, 1) := by decide +kernel
theorem dX10_sumOf_51 : decode cX10_sumOf 51 = .ok (.istore_n 3, 1) := by decide +kernel
theorem dX10_sumOf_52 : decode cX10_sumOf 52 = .ok (.iinc 4 1, 3) := by decide +kernel
theorem dX10_sumOf_55 : decode cX10_sumOf 55 = .ok (.goto (-47), 3) := by decide +kernel
theorem dX10_sumOf_58 : decode cX10_sumOf 58 = .ok (.iload_n 3, 1) := by decide +kernel
theorem dX10_sumOf_59 : decode cX10_sumOf 59 = .ok (.ireturn, 1) := by decide +kernel
theorem dX10_layLines_0 : decode cX10_layLines 0 = .ok (.aload_n 0, 1) := by decide +kernel
theorem dX10_layLines_1 : decode cX10_layLines 1 = .ok (.aload_n 0, 1) := by decide +kernel
theorem dX10_layLines_2 : decode cX10_layLines 2 = .ok (.iload_n 1, 1) := by decide +kernel
theorem dX10_layLines_3 : decode cX10_layLines 3 = .ok (.invokevirtual 316, 3) := by decide +kernel
theorem dX10_layLines_6 : decode cX10_layLines 6 = .ok (.putfield 111, 3) := by decide +kernel
theorem dX10_layLines_9 : decode cX10_layLines 9 = .ok (.aload_n 0, 1) := by decide +kernel
theorem dX10_layLines_10 : decode cX10_layLines 10 = .ok (.aload_n 0, 1) := by decide +kernel
theorem dX10_layLines_11 : decode cX10_layLines 11 = .ok (.iload_n 1, 1) := by decide +kernel
theorem dX10_layLines_12 : decode cX10_layLines 12 = .ok (.invokevirtual 319, 3) := by decide +kernel
theorem dX10_layLines_15 : decode cX10_layLines 15 = .ok (.putfield 114, 3) := by decide +kernel
theorem dX10_layLines_18 : decode cX10_layLines 18 = .ok (.aload_n 0, 1) := by decide +kernel
theorem dX10_layLines_19 : decode cX10_layLines 19 = .ok (.bipush 9, 2) := by decide +kernel
theorem dX10_layLines_21 : decode cX10_layLines 21 = .ok (.aload_n 0, 1) := by decide +kernel
theorem dX10_layLines_22 : decode cX10_layLines 22 = .ok (.iconst 0, 1) := by decide +kernel
theorem dX10_layLines_23 : decode cX10_layLines 23 = .ok (.iload_n 1, 1) := by decide +kernel
theorem dX10_layLines_24 : decode cX10_layLines 24 = .ok (.invokevirtual 322, 3) := by decide +kernel
theorem dX10_layLines_27 : decode cX10_layLines 27 = .ok (.invokevirtual 325, 3) := by decide +kernel
theorem dX10_layLines_30 : decode cX10_layLines 30 = .ok (.istore_n 2, 1) := by decide +kernel
theorem dX10_layLines_31 : decode cX10_layLines 31 = .ok (.aload_n 0, 1) := by decide +kernel
theorem dX10_layLines_32 : decode cX10_layLines 32 = .ok (.getfield 104, 3) := by decide +kernel
theorem dX10_layLines_35 : decode cX10_layLines 35 = .ok (.iload_n 1, 1) := by decide +kernel
theorem dX10_layLines_36 : decode cX10_layLines 36 = .ok (.iaload, 1) := by decide +kernel
theorem dX10_layLines_37 : decode cX10_layLines 37 = .ok (.istore_n 3, 1) := by decide +kernel
theorem dX10_layLines_38 : decode cX10_layLines 38 = .ok (.aload_n 0, 1) := by decide +kernel
theorem dX10_layLines_39 : decode cX10_layLines 39 = .ok (.aload_n 0, 1) := by decide +kernel
theorem dX10_layLines_40 : decode cX10_layLines 40 = .ok (.aload_n 0, 1) := by decide +kernel
theorem dX10_layLines_41 : decode cX10_layLines 41 = .ok (.iconst 1, 1) := by decide +kernel
theorem dX10_layLines_42 : decode cX10_layLines 42 = .ok (.iload_n 1, 1) := by decide +kernel
theorem dX10_layLines_43 : decode cX10_layLines 43 = .ok (.invokevirtual 322, 3) := by decide +kernel
theorem dX10_layLines_46 : decode cX10_layLines 46 = .ok (.iload_n 2, 1) := by decide +kernel
theorem dX10_layLines_47 : decode cX10_layLines 47 = .ok (.ifCond .le 9, 3) := by decide +kernel
theorem dX10_layLines_50 : decode cX10_layLines 50 = .ok (.iload_n 2, 1) := by decide +kernel
theorem dX10_layLines_51 : decode cX10_layLines 51 = .ok (.iconst 1, 1) := by decide +kernel
theorem dX10_layLines_52 : decode cX10_layLines 52 = .ok (.isub, 1) := by decide +kernel
theorem dX10_layLines_53 : decode cX10_layLines 53 = .ok (.goto 4, 3) := by decide +kernel
theorem dX10_layLines_56 : decode cX10_layLines 56 = .ok (.iconst 0, 1) := by decide +kernel
theorem dX10_layLines_57 : decode cX10_layLines 57 = .ok (.invokevirtual 325, 3) := by decide +kernel
theorem dX10_layLines_60 : decode cX10_layLines 60 = .ok (.iload_n 3, 1) := by decide +kernel
theorem dX10_layLines_61 : decode cX10_layLines 61 = .ok (.iconst 2, 1) := by decide +kernel
theorem dX10_layLines_62 : decode cX10_layLines 62 = .ok (.if_icmp .eq 9, 3) := by decide +kernel
theorem dX10_layLines_65 : decode cX10_layLines 65 = .ok (.iload_n 3, 1) := by decide +kernel
theorem dX10_layLines_66 : decode cX10_layLines 66 = .ok (.bipush 6, 2) := by decide +kernel
theorem dX10_layLines_68 : decode cX10_layLines 68 = .ok (.if_icmp .ne 12, 3) := by decide +kernel
theorem dX10_layLines_71 : decode cX10_layLines 71 = .ok (.aload_n 0, 1) := by decide +kernel
theorem dX10_layLines_72 : decode cX10_layLines 72 = .ok (.getfield 26, 3) := by decide +kernel
theorem dX10_layLines_75 : decode cX10_layLines 75 = .ok (.iload_n 1, 1) := by decide +kernel
theorem dX10_layLines_76 : decode cX10_layLines 76 = .ok (.iaload, 1) := by decide +kernel
theorem dX10_layLines_77 : decode cX10_layLines 77 = .ok (.goto 4, 3) := by decide +kernel
theorem dX10_layLines_80 : decode cX10_layLines 80 = .ok (.iconst 0, 1) := by decide +kernel
theorem dX10_layLines_81 : decode cX10_layLines 81 = .ok (.iadd, 1) := by decide +kernel
theorem dX10_layLines_82 : decode cX10_layLines 82 = .ok (.aload_n 0, 1) := by decide +kernel
theorem dX10_layLines_83 : decode cX10_layLines 83 = .ok (.getfield 98, 3) := by decide +kernel
theorem dX10_layLines_86 : decode cX10_layLines 86 = .ok (.iadd, 1) := by decide +kernel
theorem dX10_layLines_87 : decode cX10_layLines 87 = .ok (.putfield 120, 3) := by decide +kernel
theorem dX10_layLines_90 : decode cX10_layLines 90 = .ok (.aload_n 0, 1) := by decide +kernel
theorem dX10_layLines_91 : decode cX10_layLines 91 = .ok (.iload_n 2, 1) := by decide +kernel
theorem dX10_layLines_92 : decode cX10_layLines 92 = .ok (.aload_n 0, 1) := by decide +kernel
theorem dX10_layLines_93 : decode cX10_layLines 93 = .ok (.getfield 98, 3) := by decide +kernel
theorem dX10_layLines_96 : decode cX10_layLines 96 = .ok (.iadd, 1) := by decide +kernel
theorem dX10_layLines_97 : decode cX10_layLines 97 = .ok (.putfield 117, 3) := by decide +kernel
theorem dX10_layLines_100 : decode cX10_layLines 100 = .ok (.return_, 1) := by decide +kernel
theorem dX10_nextBy_0 : decode cX10_nextBy 0 = .ok (.aload_n 0, 1) := by decide +kernel
theorem dX10_nextBy_1 : decode cX10_nextBy 1 = .ok (.getfield 101, 3) := by decide +kernel
theorem dX10_nextBy_4 : decode cX10_nextBy 4 = .ok (.iload_n 1, 1) := by decide +kernel
theorem dX10_nextBy_5 : decode cX10_nextBy 5 = .ok (.iaload, 1) := by decide +kernel
theorem dX10_nextBy_6 : decode cX10_nextBy 6 = .ok (.istore 5, 2) := by decide +kernel
theorem dX10_nextBy_8 : decode cX10_nextBy 8 = .ok (.iload 5, 2) := by decide +kernel
theorem dX10_nextBy_10 : decode cX10_nextBy 10 = .ok (.istore 6, 2) := by decide +kernel
theorem dX10_nextBy_12 : decode cX10_nextBy 12 = .ok (.iconst 0, 1) := by decide +kernel
theorem dX10_nextBy_13 : decode cX10_nextBy 13 = .ok (.istore 7, 2) := by decide +kernel
theorem dX10_nextBy_15 : decode cX10_nextBy 15 = .ok (.iload 7, 2) := by decide +kernel
theorem dX10_nextBy_17 : decode cX10_nextBy 17 = .ok (.iconst 4, 1) := by decide +kernel
theorem dX10_nextBy_18 : decode cX10_nextBy 18 = .ok (.if_icmp .ge 88, 3) := by decide +kernel
theorem dX10_nextBy_21 : decode cX10_nextBy 21 = .ok (.aload_n 0, 1) := by decide +kernel
theorem dX10_nextBy_22 : decode cX10_nextBy 22 = .ok (.iload 5, 2) := by decide +kernel
theorem dX10_nextBy_24 : decode cX10_nextBy 24 = .ok (.iload 7, 2) := by decide +kernel
theorem dX10_nextBy_26 : decode cX10_nextBy 26 = .ok (.invokevirtual 304, 3) := by decide +kernel
theorem dX10_nextBy_29 : decode cX10_nextBy 29 = .ok (.istore 8, 2) := by decide +kernel
theorem dX10_nextBy_31 : decode cX10_nextBy 31 = .ok (.iload 8, 2) := by decide +kernel
theorem dX10_nextBy_33 : decode cX10_nextBy 33 = .ok (.ifCond .lt 67, 3) := by decide +kernel
theorem dX10_nextBy_36 : decode cX10_nextBy 36 = .ok (.aload_n 0, 1) := by decide +kernel
theorem dX10_nextBy_37 : decode cX10_nextBy 37 = .ok (.iload 8, 2) := by decide +kernel
theorem dX10_nextBy_39 : decode cX10_nextBy 39 = .ok (.invokevirtual 307, 3) := by decide +kernel
theorem dX10_nextBy_42 : decode cX10_nextBy 42 = .ok (.ifCond .ne 58, 3) := by decide +kernel
theorem dX10_nextBy_45 : decode cX10_nextBy 45 = .ok (.iload 4, 2) := by decide +kernel
theorem dX10_nextBy_47 : decode cX10_nextBy 47 = .ok (.ifCond .eq 15, 3) := by decide +kernel
theorem dX10_nextBy_50 : decode cX10_nextBy 50 = .ok (.iload 8, 2) := by decide +kernel
theorem dX10_nextBy_52 : decode cX10_nextBy 52 = .ok (.aload_n 0, 1) := by decide +kernel
theorem dX10_nextBy_53 : decode cX10_nextBy 53 = .ok (.getfield 92, 3) := by decide +kernel
theorem dX10_nextBy_56 : decode cX10_nextBy 56 = .ok (.if_icmp .ne 6, 3) := by decide +kernel
theorem dX10_nextBy_59 : decode cX10_nextBy 59 = .ok (.goto 41, 3) := by decide +kernel
theorem dX10_nextBy_62 : decode cX10_nextBy 62 = .ok (.aload_n 0, 1) := by decide +kernel
theorem dX10_nextBy_63 : decode cX10_nextBy 63 = .ok (.iload 8, 2) := by decide +kernel
theorem dX10_nextBy_65 : decode cX10_nextBy 65 = .ok (.iload_n 2, 1) := by decide +kernel
theorem dX10_nextBy_66 : decode cX10_nextBy 66 = .ok (.invokevirtual 328, 3) := by decide +kernel
theorem dX10_nextBy_69 : decode cX10_nextBy 69 = .ok (.aload_n 0, 1) := by decide +kernel
theorem dX10_nextBy_70 : decode cX10_nextBy 70 = .ok (.iload 6, 2) := by decide +kernel
theorem dX10_nextBy_72 : decode cX10_nextBy 72 = .ok (.iload_n 2, 1) := by decide +kernel
theorem dX10_nextBy_73 : decode cX10_nextBy 73 = .ok (.invokevirtual 328, 3) := by decide +kernel
theorem dX10_nextBy_76 : decode cX10_nextBy 76 = .ok (.isub, 1) := by decide +kernel
theorem dX10_nextBy_77 : decode cX10_nextBy 77 = .ok (.istore 9, 2) := by decide +kernel
theorem dX10_nextBy_79 : decode cX10_nextBy 79 = .ok (.iload_n 3, 1) := by decide +kernel
theorem dX10_nextBy_80 : decode cX10_nextBy 80 = .ok (.ifCond .eq 11, 3) := by decide +kernel
theorem dX10_nextBy_83 : decode cX10_nextBy 83 = .ok (.iload 9, 2) := by decide +kernel
theorem dX10_nextBy_85 : decode cX10_nextBy 85 = .ok (.ifCond .ge 15, 3) := by decide +kernel
theorem dX10_nextBy_88 : decode cX10_nextBy 88 = .ok (.goto 8, 3) := by decide +kernel
theorem dX10_nextBy_91 : decode cX10_nextBy 91 = .ok (.iload 9, 2) := by decide +kernel
theorem dX10_nextBy_93 : decode cX10_nextBy 93 = .ok (.ifCond .le 7, 3) := by decide +kernel
theorem dX10_nextBy_96 : decode cX10_nextBy 96 = .ok (.iload 8, 2) := by decide +kernel
theorem dX10_nextBy_98 : decode cX10_nextBy 98 = .ok (.istore 6, 2) := by decide +kernel
theorem dX10_nextBy_100 : decode cX10_nextBy 100 = .ok (.iinc 7 1, 3) := by decide +kernel
theorem dX10_nextBy_103 : decode cX10_nextBy 103 = .ok (.goto (-88), 3) := by decide +kernel
theorem dX10_nextBy_106 : decode cX10_nextBy 106 = .ok (.iload 6, 2) := by decide +kernel
theorem dX10_nextBy_108 : decode cX10_nextBy 108 = .ok (.ireturn, 1) := by decide +kernel
theorem dX10_doesOf_0 : decode cX10_doesOf 0 = .ok (.aload_n 0, 1) := by decide +kernel
theorem dX10_doesOf_1 : decode cX10_doesOf 1 = .ok (.iload_n 1, 1) := by decide +kernel
theorem dX10_doesOf_2 : decode cX10_doesOf 2 = .ok (.invokevirtual 331, 3) := by decide +kernel
theorem dX10_doesOf_5 : decode cX10_doesOf 5 = .ok (.aload_n 0, 1) := by decide +kernel
theorem dX10_doesOf_6 : decode cX10_doesOf 6 = .ok (.aload_n 0, 1) := by decide +kernel
theorem dX10_doesOf_7 : decode cX10_doesOf 7 = .ok (.getfield 101, 3) := by decide +kernel
theorem dX10_doesOf_10 : decode cX10_doesOf 10 = .ok (.iload_n 1, 1) := by decide +kernel
theorem dX10_doesOf_11 : decode cX10_doesOf 11 = .ok (.iaload, 1) := by decide +kernel
theorem dX10_doesOf_12 : decode cX10_doesOf 12 = .ok (.aload_n 0, 1) := by decide +kernel
theorem dX10_doesOf_13 : decode cX10_doesOf 13 = .ok (.getfield 92, 3) := by decide +kernel
theorem dX10_doesOf_16 : decode cX10_doesOf 16 = .ok (.invokevirtual 301, 3) := by decide +kernel
theorem dX10_doesOf_19 : decode cX10_doesOf 19 = .ok (.istore_n 2, 1) := by decide +kernel
theorem dX10_doesOf_20 : decode cX10_doesOf 20 = .ok (.iload_n 2, 1) := by decide +kernel
theorem dX10_doesOf_21 : decode cX10_doesOf 21 = .ok (.aload_n 0, 1) := by decide +kernel
theorem dX10_doesOf_22 : decode cX10_doesOf 22 = .ok (.getfield 120, 3) := by decide +kernel
theorem dX10_doesOf_25 : decode cX10_doesOf 25 = .ok (.if_icmp .gt 7, 3) := by decide +kernel
theorem dX10_doesOf_28 : decode cX10_doesOf 28 = .ok (.iconst 1, 1) := by decide +kernel
theorem dX10_doesOf_29 : decode cX10_doesOf 29 = .ok (.goto 4, 3) := by decide +kernel
theorem dX10_doesOf_32 : decode cX10_doesOf 32 = .ok (.iconst 0, 1) := by decide +kernel
theorem dX10_doesOf_33 : decode cX10_doesOf 33 = .ok (.istore_n 3, 1) := by decide +kernel
theorem dX10_doesOf_34 : decode cX10_doesOf 34 = .ok (.iload_n 2, 1) := by decide +kernel
theorem dX10_doesOf_35 : decode cX10_doesOf 35 = .ok (.aload_n 0, 1) := by decide +kernel
theorem dX10_doesOf_36 : decode cX10_doesOf 36 = .ok (.getfield 117, 3) := by decide +kernel
theorem dX10_doesOf_39 : decode cX10_doesOf 39 = .ok (.if_icmp .gt 7, 3) := by decide +kernel
theorem dX10_doesOf_42 : decode cX10_doesOf 42 = .ok (.iconst 1, 1) := by decide +kernel
theorem dX10_doesOf_43 : decode cX10_doesOf 43 = .ok (.goto 4, 3) := by decide +kernel
theorem dX10_doesOf_46 : decode cX10_doesOf 46 = .ok (.iconst 0, 1) := by decide +kernel
theorem dX10_doesOf_47 : decode cX10_doesOf 47 = .ok (.istore 4, 2) := by decide +kernel
theorem dX10_doesOf_49 : decode cX10_doesOf 49 = .ok (.aload_n 0, 1) := by decide +kernel
theorem dX10_doesOf_50 : decode cX10_doesOf 50 = .ok (.iload_n 1, 1) := by decide +kernel
theorem dX10_doesOf_51 : decode cX10_doesOf 51 = .ok (.aload_n 0, 1) := by decide +kernel
theorem dX10_doesOf_52 : decode cX10_doesOf 52 = .ok (.getfield 92, 3) := by decide +kernel
theorem dX10_doesOf_55 : decode cX10_doesOf 55 = .ok (.iconst 0, 1) := by decide +kernel
theorem dX10_doesOf_56 : decode cX10_doesOf 56 = .ok (.iconst 1, 1) := by decide +kernel
theorem dX10_doesOf_57 : decode cX10_doesOf 57 = .ok (.invokevirtual 334, 3) := by decide +kernel
theorem dX10_doesOf_60 : decode cX10_doesOf 60 = .ok (.istore 5, 2) := by decide +kernel
theorem dX10_doesOf_62 : decode cX10_doesOf 62 = .ok (.aload_n 0, 1) := by decide +kernel
theorem dX10_doesOf_63 : decode cX10_doesOf 63 = .ok (.iload_n 1, 1) := by decide +kernel
theorem dX10_doesOf_64 : decode cX10_doesOf 64 = .ok (.aload_n 0, 1) := by decide +kernel
theorem dX10_doesOf_65 : decode cX10_doesOf 65 = .ok (.getfield 92, 3) := by decide +kernel
theorem dX10_doesOf_68 : decode cX10_doesOf 68 = .ok (.iconst 1, 1) := by decide +kernel
theorem dX10_doesOf_69 : decode cX10_doesOf 69 = .ok (.iconst 0, 1) := by decide +kernel
theorem dX10_doesOf_70 : decode cX10_doesOf 70 = .ok (.invokevirtual 334, 3) := by decide +kernel
theorem dX10_doesOf_73 : decode cX10_doesOf 73 = .ok (.istore 6, 2) := by decide +kernel
theorem dX10_doesOf_75 : decode cX10_doesOf 75 = .ok (.aload_n 0, 1) := by decide +kernel
theorem dX10_doesOf_76 : decode cX10_doesOf 76 = .ok (.aload_n 0, 1) := by decide +kernel
theorem dX10_doesOf_77 : decode cX10_doesOf 77 = .ok (.getfield 101, 3) := by decide +kernel
theorem dX10_doesOf_80 : decode cX10_doesOf 80 = .ok (.iload_n 1, 1) := by decide +kernel
theorem dX10_doesOf_81 : decode cX10_doesOf 81 = .ok (.iaload, 1) := by decide +kernel
theorem dX10_doesOf_82 : decode cX10_doesOf 82 = .ok (.putfield 123, 3) := by decide +kernel
theorem dX10_doesOf_85 : decode cX10_doesOf 85 = .ok (.iload_n 3, 1) := by decide +kernel
theorem dX10_doesOf_86 : decode cX10_doesOf 86 = .ok (.ifCond .eq 7, 3) := by decide +kernel
theorem dX10_doesOf_89 : decode cX10_doesOf 89 = .ok (.iconst 2, 1) := by decide +kernel
theorem dX10_doesOf_90 : decode cX10_doesOf 90 = .ok (.goto 13, 3) := by decide +kernel
theorem dX10_doesOf_93 : decode cX10_doesOf 93 = .ok (.iload 4, 2) := by decide +kernel
theorem dX10_doesOf_95 : decode cX10_doesOf 95 = .ok (.ifCond .eq 7, 3) := by decide +kernel
theorem dX10_doesOf_98 : decode cX10_doesOf 98 = .ok (.iconst 1, 1) := by decide +kernel
theorem dX10_doesOf_99 : decode cX10_doesOf 99 = .ok (.goto 4, 3) := by decide +kernel
theorem dX10_doesOf_102 : decode cX10_doesOf 102 = .ok (.iconst 0, 1) := by decide +kernel
theorem dX10_doesOf_103 : decode cX10_doesOf 103 = .ok (.istore 7, 2) := by decide +kernel
theorem dX10_doesOf_105 : decode cX10_doesOf 105 = .ok (.aload_n 0, 1) := by decide +kernel
theorem dX10_doesOf_106 : decode cX10_doesOf 106 = .ok (.getfield 104, 3) := by decide +kernel
theorem dX10_doesOf_109 : decode cX10_doesOf 109 = .ok (.iload_n 1, 1) := by decide +kernel
theorem dX10_doesOf_110 : decode cX10_doesOf 110 = .ok (.iaload, 1) := by decide +kernel
theorem dX10_doesOf_111 : decode cX10_doesOf 111 = .ok (.tableswitch 209 1 6 #[37, 209, 56, 90, 124, 172], 37) := by decide +kernel
theorem dX10_doesOf_148 : decode cX10_doesOf 148 = .ok (.iload_n 3, 1) := by decide +kernel
theorem dX10_doesOf_149 : decode cX10_doesOf 149 = .ok (.ifCond .ne 8, 3) := by decide +kernel
theorem dX10_doesOf_152 : decode cX10_doesOf 152 = .ok (.iload 4, 2) := by decide +kernel
theorem dX10_doesOf_154 : decode cX10_doesOf 154 = .ok (.ifCond .eq 7, 3) := by decide +kernel
theorem dX10_doesOf_157 : decode cX10_doesOf 157 = .ok (.iconst 1, 1) := by decide +kernel
theorem dX10_doesOf_158 : decode cX10_doesOf 158 = .ok (.goto 4, 3) := by decide +kernel
theorem dX10_doesOf_161 : decode cX10_doesOf 161 = .ok (.iconst 0, 1) := by decide +kernel
theorem dX10_doesOf_162 : decode cX10_doesOf 162 = .ok (.istore 7, 2) := by decide +kernel
theorem dX10_doesOf_164 : decode cX10_doesOf 164 = .ok (.goto 156, 3) := by decide +kernel
theorem dX10_doesOf_167 : decode cX10_doesOf 167 = .ok (.aload_n 0, 1) := by decide +kernel
theorem dX10_doesOf_168 : decode cX10_doesOf 168 = .ok (.getfield 26, 3) := by decide +kernel
theorem dX10_doesOf_171 : decode cX10_doesOf 171 = .ok (.iload_n 1, 1) := by decide +kernel
theorem dX10_doesOf_172 : decode cX10_doesOf 172 = .ok (.iaload, 1) := by decide +kernel
theorem dX10_doesOf_173 : decode cX10_doesOf 173 = .ok (.ifCond .le 21, 3) := by decide +kernel
theorem dX10_doesOf_176 : decode cX10_doesOf 176 = .ok (.aload_n 0, 1) := by decide +kernel
theorem dX10_doesOf_177 : decode cX10_doesOf 177 = .ok (.getfield 95, 3) := by decide +kernel
theorem dX10_doesOf_180 : decode cX10_doesOf 180 = .ok (.aload_n 0, 1) := by decide +kernel
theorem dX10_doesOf_181 : decode cX10_doesOf 181 = .ok (.getfield 26, 3) := by decide +kernel
theorem dX10_doesOf_184 : decode cX10_doesOf 184 = .ok (.iload_n 1, 1) := by decide +kernel
theorem dX10_doesOf_185 : decode cX10_doesOf 185 = .ok (.iaload, 1) := by decide +kernel
theorem dX10_doesOf_186 : decode cX10_doesOf 186 = .ok (.irem, 1) := by decide +kernel
theorem dX10_doesOf_187 : decode cX10_doesOf 187 = .ok (.ifCond .ne 7, 3) := by decide +kernel
theorem dX10_doesOf_190 : decode cX10_doesOf 190 = .ok (.iconst 0, 1) := by decide +kernel
theorem dX10_doesOf_191 : decode cX10_doesOf 191 = .ok (.goto 5, 3) := by decide +kernel
theorem dX10_doesOf_194 : decode cX10_doesOf 194 = .ok (.iload 7, 2) := by decide +kernel
theorem dX10_doesOf_196 : decode cX10_doesOf 196 = .ok (.istore 7, 2) := by decide +kernel
theorem dX10_doesOf_198 : decode cX10_doesOf 198 = .ok (.goto 122, 3) := by decide +kernel
theorem dX10_doesOf_201 : decode cX10_doesOf 201 = .ok (.iload_n 3, 1) := by decide +kernel
theorem dX10_doesOf_202 : decode cX10_doesOf 202 = .ok (.ifCond .ne 8, 3) := by decide +kernel
theorem dX10_doesOf_205 : decode cX10_doesOf 205 = .ok (.iload 4, 2) := by decide +kernel
theorem dX10_doesOf_207 : decode cX10_doesOf 207 = .ok (.ifCond .eq 22, 3) := by decide +kernel
theorem dX10_doesOf_210 : decode cX10_doesOf 210 = .ok (.iload 5, 2) := by decide +kernel
theorem dX10_doesOf_212 : decode cX10_doesOf 212 = .ok (.aload_n 0, 1) := by decide +kernel
theorem dX10_doesOf_213 : decode cX10_doesOf 213 = .ok (.getfield 101, 3) := by decide +kernel
theorem dX10_doesOf_216 : decode cX10_doesOf 216 = .ok (.iload_n 1, 1) := by decide +kernel
theorem dX10_doesOf_217 : decode cX10_doesOf 217 = .ok (.iaload, 1) := by decide +kernel
theorem dX10_doesOf_218 : decode cX10_doesOf 218 = .ok (.if_icmp .ne 7, 3) := by decide +kernel
theorem dX10_doesOf_221 : decode cX10_doesOf 221 = .ok (.iconst 2, 1) := by decide +kernel
theorem dX10_doesOf_222 : decode cX10_doesOf 222 = .ok (.goto 8, 3) := by decide +kernel
theorem dX10_doesOf_225 : decode cX10_doesOf 225 = .ok (.iconst 1, 1) := by decide +kernel
theorem dX10_doesOf_226 : decode cX10_doesOf 226 = .ok (.goto 4, 3) := by decide +kernel
theorem dX10_doesOf_229 : decode cX10_doesOf 229 = .ok (.iconst 0, 1) := by decide +kernel
theorem dX10_doesOf_230 : decode cX10_doesOf 230 = .ok (.istore 7, 2) := by decide +kernel
theorem dX10_doesOf_232 : decode cX10_doesOf 232 = .ok (.goto 88, 3) := by decide +kernel
theorem dX10_doesOf_235 : decode cX10_doesOf 235 = .ok (.iload_n 3, 1) := by decide +kernel
theorem dX10_doesOf_236 : decode cX10_doesOf 236 = .ok (.ifCond .ne 8, 3) := by decide +kernel
theorem dX10_doesOf_239 : decode cX10_doesOf 239 = .ok (.iload 4, 2) := by decide +kernel
theorem dX10_doesOf_241 : decode cX10_doesOf 241 = .ok (.ifCond .eq 7, 3) := by decide +kernel
theorem dX10_doesOf_244 : decode cX10_doesOf 244 = .ok (.iconst 1, 1) := by decide +kernel
theorem dX10_doesOf_245 : decode cX10_doesOf 245 = .ok (.goto 33, 3) := by decide +kernel
theorem dX10_doesOf_248 : decode cX10_doesOf 248 = .ok (.aload_n 0, 1) := by decide +kernel
theorem dX10_doesOf_249 : decode cX10_doesOf 249 = .ok (.aload_n 0, 1) := by decide +kernel
theorem dX10_doesOf_250 : decode cX10_doesOf 250 = .ok (.getfield 101, 3) := by decide +kernel
theorem dX10_doesOf_253 : decode cX10_doesOf 253 = .ok (.iload_n 1, 1) := by decide +kernel
theorem dX10_doesOf_254 : decode cX10_doesOf 254 = .ok (.iaload, 1) := by decide +kernel
theorem dX10_doesOf_255 : decode cX10_doesOf 255 = .ok (.aload_n 0, 1) := by decide +kernel
theorem dX10_doesOf_256 : decode cX10_doesOf 256 = .ok (.getfield 32, 3) := by decide +kernel
theorem dX10_doesOf_259 : decode cX10_doesOf 259 = .ok (.iload_n 1, 1) := by decide +kernel
theorem dX10_doesOf_260 : decode cX10_doesOf 260 = .ok (.iaload, 1) := by decide +kernel
theorem dX10_doesOf_261 : decode cX10_doesOf 261 = .ok (.invokevirtual 301, 3) := by decide +kernel
theorem dX10_doesOf_264 : decode cX10_doesOf 264 = .ok (.aload_n 0, 1) := by decide +kernel
theorem dX10_doesOf_265 : decode cX10_doesOf 265 = .ok (.getfield 26, 3) := by decide +kernel
theorem dX10_doesOf_268 : decode cX10_doesOf 268 = .ok (.iload_n 1, 1) := by decide +kernel
theorem dX10_doesOf_269 : decode cX10_doesOf 269 = .ok (.iaload, 1) := by decide +kernel
theorem dX10_doesOf_270 : decode cX10_doesOf 270 = .ok (.if_icmp .gt 7, 3) := by decide +kernel
theorem dX10_doesOf_273 : decode cX10_doesOf 273 = .ok (.iconst 3, 1) := by decide +kernel
theorem dX10_doesOf_274 : decode cX10_doesOf 274 = .ok (.goto 4, 3) := by decide +kernel
theorem dX10_doesOf_277 : decode cX10_doesOf 277 = .ok (.iconst 0, 1) := by decide +kernel
theorem dX10_doesOf_278 : decode cX10_doesOf 278 = .ok (.istore 7, 2) := by decide +kernel
theorem dX10_doesOf_280 : decode cX10_doesOf 280 = .ok (.goto 40, 3) := by decide +kernel
theorem dX10_doesOf_283 : decode cX10_doesOf 283 = .ok (.iload 7, 2) := by decide +kernel
theorem dX10_doesOf_285 : decode cX10_doesOf 285 = .ok (.iconst 2, 1) := by decide +kernel
theorem dX10_doesOf_286 : decode cX10_doesOf 286 = .ok (.if_icmp .ne 27, 3) := by decide +kernel
theorem dX10_doesOf_289 : decode cX10_doesOf 289 = .ok (.iload 6, 2) := by decide +kernel
theorem dX10_doesOf_291 : decode cX10_doesOf 291 = .ok (.aload_n 0, 1) := by decide +kernel
theorem dX10_doesOf_292 : decode cX10_doesOf 292 = .ok (.getfield 92, 3) := by decide +kernel
theorem dX10_doesOf_295 : decode cX10_doesOf 295 = .ok (.if_icmp .ne 18, 3) := by decide +kernel
theorem dX10_doesOf_298 : decode cX10_doesOf 298 = .ok (.iload 6, 2) := by decide +kernel
theorem dX10_doesOf_300 : decode cX10_doesOf 300 = .ok (.aload_n 0, 1) := by decide +kernel
theorem dX10_doesOf_301 : decode cX10_doesOf 301 = .ok (.getfield 101, 3) := by decide +kernel
theorem dX10_doesOf_304 : decode cX10_doesOf 304 = .ok (.iload_n 1, 1) := by decide +kernel
theorem dX10_doesOf_305 : decode cX10_doesOf 305 = .ok (.iaload, 1) := by decide +kernel
theorem dX10_doesOf_306 : decode cX10_doesOf 306 = .ok (.if_icmp .eq 7, 3) := by decide +kernel
theorem dX10_doesOf_309 : decode cX10_doesOf 309 = .ok (.iconst 0, 1) := by decide +kernel
theorem dX10_doesOf_310 : decode cX10_doesOf 310 = .ok (.goto 5, 3) := by decide +kernel
theorem dX10_doesOf_313 : decode cX10_doesOf 313 = .ok (.iload 7, 2) := by decide +kernel
theorem dX10_doesOf_315 : decode cX10_doesOf 315 = .ok (.istore 7, 2) := by decide +kernel
theorem dX10_doesOf_317 : decode cX10_doesOf 317 = .ok (.goto 3, 3) := by decide +kernel
theorem dX10_doesOf_320 : decode cX10_doesOf 320 = .ok (.aload_n 0, 1) := by decide +kernel
theorem dX10_doesOf_321 : decode cX10_doesOf 321 = .ok (.iload 7, 2) := by decide +kernel
theorem dX10_doesOf_323 : decode cX10_doesOf 323 = .ok (.iconst 1, 1) := by decide +kernel
theorem dX10_doesOf_324 : decode cX10_doesOf 324 = .ok (.if_icmp .ne 8, 3) := by decide +kernel
theorem dX10_doesOf_327 : decode cX10_doesOf 327 = .ok (.iload 5, 2) := by decide +kernel
theorem dX10_doesOf_329 : decode cX10_doesOf 329 = .ok (.goto 42, 3) := by decide +kernel
theorem dX10_doesOf_332 : decode cX10_doesOf 332 = .ok (.iload 7, 2) := by decide +kernel
theorem dX10_doesOf_334 : decode cX10_doesOf 334 = .ok (.iconst 2, 1) := by decide +kernel
theorem dX10_doesOf_335 : decode cX10_doesOf 335 = .ok (.if_icmp .ne 8, 3) := by decide +kernel
theorem dX10_doesOf_338 : decode cX10_doesOf 338 = .ok (.iload 6, 2) := by decide +kernel
theorem dX10_doesOf_340 : decode cX10_doesOf 340 = .ok (.goto 31, 3) := by decide +kernel
theorem dX10_doesOf_343 : decode cX10_doesOf 343 = .ok (.iload 7, 2) := by decide +kernel
theorem dX10_doesOf_345 : decode cX10_doesOf 345 = .ok (.iconst 3, 1) := by decide +kernel
theorem dX10_doesOf_346 : decode cX10_doesOf 346 = .ok (.if_icmp .ne 19, 3) := by decide +kernel
theorem dX10_doesOf_349 : decode cX10_doesOf 349 = .ok (.aload_n 0, 1) := by decide +kernel
theorem dX10_doesOf_350 : decode cX10_doesOf 350 = .ok (.iload_n 1, 1) := by decide +kernel
theorem dX10_doesOf_351 : decode cX10_doesOf 351 = .ok (.aload_n 0, 1) := by decide +kernel
theorem dX10_doesOf_352 : decode cX10_doesOf 352 = .ok (.getfield 32, 3) := by decide +kernel
theorem dX10_doesOf_355 : decode cX10_doesOf 355 = .ok (.iload_n 1, 1) := by decide +kernel
theorem dX10_doesOf_356 : decode cX10_doesOf 356 = .ok (.iaload, 1) := by decide +kernel
theorem dX10_doesOf_357 : decode cX10_doesOf 357 = .ok (.iconst 1, 1) := by decide +kernel
theorem dX10_doesOf_358 : decode cX10_doesOf 358 = .ok (.iconst 1, 1) := by decide +kernel
theorem dX10_doesOf_359 : decode cX10_doesOf 359 = .ok (.invokevirtual 334, 3) := by decide +kernel
theorem dX10_doesOf_362 : decode cX10_doesOf 362 = .ok (.goto 9, 3) := by decide +kernel
theorem dX10_doesOf_365 : decode cX10_doesOf 365 = .ok (.aload_n 0, 1) := by decide +kernel
theorem dX10_doesOf_366 : decode cX10_doesOf 366 = .ok (.getfield 101, 3) := by decide +kernel
theorem dX10_doesOf_369 : decode cX10_doesOf 369 = .ok (.iload_n 1, 1) := by decide +kernel
theorem dX10_doesOf_370 : decode cX10_doesOf 370 = .ok (.iaload, 1) := by decide +kernel
theorem dX10_doesOf_371 : decode cX10_doesOf 371 = .ok (.putfield 123, 3) := by decide +kernel
theorem dX10_doesOf_374 : decode cX10_doesOf 374 = .ok (.aload_n 0, 1) := by decide +kernel
theorem dX10_doesOf_375 : decode cX10_doesOf 375 = .ok (.getfield 123, 3) := by decide +kernel
theorem dX10_doesOf_378 : decode cX10_doesOf 378 = .ok (.aload_n 0, 1) := by decide +kernel
theorem dX10_doesOf_379 : decode cX10_doesOf 379 = .ok (.getfield 101, 3) := by decide +kernel
theorem dX10_doesOf_382 : decode cX10_doesOf 382 = .ok (.iload_n 1, 1) := by decide +kernel
theorem dX10_doesOf_383 : decode cX10_doesOf 383 = .ok (.iaload, 1) := by decide +kernel
theorem dX10_doesOf_384 : decode cX10_doesOf 384 = .ok (.if_icmp .ne 7, 3) := by decide +kernel
theorem dX10_doesOf_387 : decode cX10_doesOf 387 = .ok (.iconst 0, 1) := by decide +kernel
theorem dX10_doesOf_388 : decode cX10_doesOf 388 = .ok (.goto 5, 3) := by decide +kernel
theorem dX10_doesOf_391 : decode cX10_doesOf 391 = .ok (.iload 7, 2) := by decide +kernel
theorem dX10_doesOf_393 : decode cX10_doesOf 393 = .ok (.ireturn, 1) := by decide +kernel
theorem dX10_of_0 : decode cX10_of 0 = .ok (.aload_n 0, 1) := by decide +kernel
theorem dX10_of_1 : decode cX10_of 1 = .ok (.iload_n 1, 1) := by decide +kernel
theorem dX10_of_2 : decode cX10_of 2 = .ok (.invokevirtual 246, 3) := by decide +kernel
theorem dX10_of_5 : decode cX10_of 5 = .ok (.ifCond .ne 5, 3) := by decide +kernel
theorem dX10_of_8 : decode cX10_of 8 = .ok (.iconst (-1), 1) := by decide +kernel
theorem dX10_of_9 : decode cX10_of 9 = .ok (.ireturn, 1) := by decide +kernel
theorem dX10_of_10 : decode cX10_of 10 = .ok (.aload_n 0, 1) := by decide +kernel
theorem dX10_of_11 : decode cX10_of 11 = .ok (.invokevirtual 338, 3) := by decide +kernel
theorem dX10_of_14 : decode cX10_of 14 = .ok (.aload_n 0, 1) := by decide +kernel
theorem dX10_of_15 : decode cX10_of 15 = .ok (.iload_n 1, 1) := by decide +kernel
theorem dX10_of_16 : decode cX10_of 16 = .ok (.invokevirtual 331, 3) := by decide +kernel
theorem dX10_of_19 : decode cX10_of 19 = .ok (.iload_n 2, 1) := by decide +kernel
theorem dX10_of_20 : decode cX10_of 20 = .ok (.tableswitch 99 0 7 #[48, 55, 62, 69, 76, 83, 88, 93], 48) := by decide +kernel
theorem dX10_of_68 : decode cX10_of 68 = .ok (.aload_n 0, 1) := by decide +kernel
theorem dX10_of_69 : decode cX10_of 69 = .ok (.getfield 22, 3) := by decide +kernel
theorem dX10_of_72 : decode cX10_of 72 = .ok (.iload_n 1, 1) := by decide +kernel
theorem dX10_of_73 : decode cX10_of 73 = .ok (.iaload, 1) := by decide +kernel
theorem dX10_of_74 : decode cX10_of 74 = .ok (.ireturn, 1) := by decide +kernel
theorem dX10_of_75 : decode cX10_of 75 = .ok (.aload_n 0, 1) := by decide +kernel
theorem dX10_of_76 : decode cX10_of 76 = .ok (.getfield 26, 3) := by decide +kernel
theorem dX10_of_79 : decode cX10_of 79 = .ok (.iload_n 1, 1) := by decide +kernel
theorem dX10_of_80 : decode cX10_of 80 = .ok (.iaload, 1) := by decide +kernel
theorem dX10_of_81 : decode cX10_of 81 = .ok (.ireturn, 1) := by decide +kernel
