theorem dL_isFormula_66 : decode cL_isFormula 66 = .ok (.iconst 0, 1) := by decide +kernel
theorem dL_isFormula_67 : decode cL_isFormula 67 = .ok (.invokevirtual 103, 3) := by decide +kernel
theorem dL_isFormula_70 : decode cL_isFormula 70 = .ok (.aload_n 3, 1) := by decide +kernel
theorem dL_isFormula_71 : decode cL_isFormula 71 = .ok (.iconst 0, 1) := by decide +kernel
theorem dL_isFormula_72 : decode cL_isFormula 72 = .ok (.iaload, 1) := by decide +kernel
theorem dL_isFormula_73 : decode cL_isFormula 73 = .ok (.if_icmp .ne 55, 3) := by decide +kernel
theorem dL_isFormula_76 : decode cL_isFormula 76 = .ok (.aload_n 0, 1) := by decide +kernel
theorem dL_isFormula_77 : decode cL_isFormula 77 = .ok (.iload_n 1, 1) := by decide +kernel
theorem dL_isFormula_78 : decode cL_isFormula 78 = .ok (.iconst 1, 1) := by decide +kernel
theorem dL_isFormula_79 : decode cL_isFormula 79 = .ok (.invokevirtual 103, 3) := by decide +kernel
theorem dL_isFormula_82 : decode cL_isFormula 82 = .ok (.aload_n 3, 1) := by decide +kernel
theorem dL_isFormula_83 : decode cL_isFormula 83 = .ok (.iconst 4, 1) := by decide +kernel
theorem dL_isFormula_84 : decode cL_isFormula 84 = .ok (.iaload, 1) := by decide +kernel
theorem dL_isFormula_85 : decode cL_isFormula 85 = .ok (.if_icmp .ne 43, 3) := by decide +kernel
theorem dL_isFormula_88 : decode cL_isFormula 88 = .ok (.aload_n 0, 1) := by decide +kernel
theorem dL_isFormula_89 : decode cL_isFormula 89 = .ok (.iload_n 1, 1) := by decide +kernel
theorem dL_isFormula_90 : decode cL_isFormula 90 = .ok (.iconst 2, 1) := by decide +kernel
theorem dL_isFormula_91 : decode cL_isFormula 91 = .ok (.invokevirtual 103, 3) := by decide +kernel
theorem dL_isFormula_94 : decode cL_isFormula 94 = .ok (.aload_n 3, 1) := by decide +kernel
theorem dL_isFormula_95 : decode cL_isFormula 95 = .ok (.iconst 2, 1) := by decide +kernel
theorem dL_isFormula_96 : decode cL_isFormula 96 = .ok (.iaload, 1) := by decide +kernel
theorem dL_isFormula_97 : decode cL_isFormula 97 = .ok (.if_icmp .ne 31, 3) := by decide +kernel
theorem dL_isFormula_100 : decode cL_isFormula 100 = .ok (.aload_n 0, 1) := by decide +kernel
theorem dL_isFormula_101 : decode cL_isFormula 101 = .ok (.iload_n 1, 1) := by decide +kernel
theorem dL_isFormula_102 : decode cL_isFormula 102 = .ok (.iconst 3, 1) := by decide +kernel
theorem dL_isFormula_103 : decode cL_isFormula 103 = .ok (.invokevirtual 103, 3) := by decide +kernel
theorem dL_isFormula_106 : decode cL_isFormula 106 = .ok (.aload_n 3, 1) := by decide +kernel
theorem dL_isFormula_107 : decode cL_isFormula 107 = .ok (.iconst 1, 1) := by decide +kernel
theorem dL_isFormula_108 : decode cL_isFormula 108 = .ok (.iaload, 1) := by decide +kernel
theorem dL_isFormula_109 : decode cL_isFormula 109 = .ok (.if_icmp .ne 19, 3) := by decide +kernel
theorem dL_isFormula_112 : decode cL_isFormula 112 = .ok (.aload_n 0, 1) := by decide +kernel
theorem dL_isFormula_113 : decode cL_isFormula 113 = .ok (.iload_n 1, 1) := by decide +kernel
theorem dL_isFormula_114 : decode cL_isFormula 114 = .ok (.iconst 4, 1) := by decide +kernel
theorem dL_isFormula_115 : decode cL_isFormula 115 = .ok (.invokevirtual 103, 3) := by decide +kernel
theorem dL_isFormula_118 : decode cL_isFormula 118 = .ok (.aload_n 3, 1) := by decide +kernel
theorem dL_isFormula_119 : decode cL_isFormula 119 = .ok (.iconst 3, 1) := by decide +kernel
theorem dL_isFormula_120 : decode cL_isFormula 120 = .ok (.iaload, 1) := by decide +kernel
theorem dL_isFormula_121 : decode cL_isFormula 121 = .ok (.if_icmp .ne 7, 3) := by decide +kernel
theorem dL_isFormula_124 : decode cL_isFormula 124 = .ok (.iconst 1, 1) := by decide +kernel
theorem dL_isFormula_125 : decode cL_isFormula 125 = .ok (.goto 4, 3) := by decide +kernel
theorem dL_isFormula_128 : decode cL_isFormula 128 = .ok (.iconst 0, 1) := by decide +kernel
theorem dL_isFormula_129 : decode cL_isFormula 129 = .ok (.istore 5, 2) := by decide +kernel
theorem dL_isFormula_131 : decode cL_isFormula 131 = .ok (.iload 5, 2) := by decide +kernel
theorem dL_isFormula_133 : decode cL_isFormula 133 = .ok (.ifCond .eq 63, 3) := by decide +kernel
theorem dL_isFormula_136 : decode cL_isFormula 136 = .ok (.aload_n 0, 1) := by decide +kernel
theorem dL_isFormula_137 : decode cL_isFormula 137 = .ok (.iload_n 1, 1) := by decide +kernel
theorem dL_isFormula_138 : decode cL_isFormula 138 = .ok (.aload_n 3, 1) := by decide +kernel
theorem dL_isFormula_139 : decode cL_isFormula 139 = .ok (.iconst 0, 1) := by decide +kernel
theorem dL_isFormula_140 : decode cL_isFormula 140 = .ok (.iaload, 1) := by decide +kernel
theorem dL_isFormula_141 : decode cL_isFormula 141 = .ok (.invokevirtual 97, 3) := by decide +kernel
theorem dL_isFormula_144 : decode cL_isFormula 144 = .ok (.ldc2_w 107, 3) := by decide +kernel
theorem dL_isFormula_147 : decode cL_isFormula 147 = .ok (.lcmp, 1) := by decide +kernel
theorem dL_isFormula_148 : decode cL_isFormula 148 = .ok (.ifCond .ne 48, 3) := by decide +kernel
theorem dL_isFormula_151 : decode cL_isFormula 151 = .ok (.aload_n 0, 1) := by decide +kernel
theorem dL_isFormula_152 : decode cL_isFormula 152 = .ok (.iload_n 1, 1) := by decide +kernel
theorem dL_isFormula_153 : decode cL_isFormula 153 = .ok (.iconst (-1), 1) := by decide +kernel
theorem dL_isFormula_154 : decode cL_isFormula 154 = .ok (.invokevirtual 97, 3) := by decide +kernel
theorem dL_isFormula_157 : decode cL_isFormula 157 = .ok (.ldc2_w 107, 3) := by decide +kernel
theorem dL_isFormula_160 : decode cL_isFormula 160 = .ok (.lcmp, 1) := by decide +kernel
theorem dL_isFormula_161 : decode cL_isFormula 161 = .ok (.ifCond .ne 35, 3) := by decide +kernel
theorem dL_isFormula_164 : decode cL_isFormula 164 = .ok (.aload_n 0, 1) := by decide +kernel
theorem dL_isFormula_165 : decode cL_isFormula 165 = .ok (.iload_n 1, 1) := by decide +kernel
theorem dL_isFormula_166 : decode cL_isFormula 166 = .ok (.invokevirtual 109, 3) := by decide +kernel
theorem dL_isFormula_169 : decode cL_isFormula 169 = .ok (.aload_n 3, 1) := by decide +kernel
theorem dL_isFormula_170 : decode cL_isFormula 170 = .ok (.iconst 1, 1) := by decide +kernel
theorem dL_isFormula_171 : decode cL_isFormula 171 = .ok (.iaload, 1) := by decide +kernel
theorem dL_isFormula_172 : decode cL_isFormula 172 = .ok (.ifCond .ge 13, 3) := by decide +kernel
theorem dL_isFormula_175 : decode cL_isFormula 175 = .ok (.aload_n 2, 1) := by decide +kernel
theorem dL_isFormula_176 : decode cL_isFormula 176 = .ok (.aload_n 3, 1) := by decide +kernel
theorem dL_isFormula_177 : decode cL_isFormula 177 = .ok (.iconst 0, 1) := by decide +kernel
theorem dL_isFormula_178 : decode cL_isFormula 178 = .ok (.iaload, 1) := by decide +kernel
theorem dL_isFormula_179 : decode cL_isFormula 179 = .ok (.iconst 1, 1) := by decide +kernel
theorem dL_isFormula_180 : decode cL_isFormula 180 = .ok (.isub, 1) := by decide +kernel
theorem dL_isFormula_181 : decode cL_isFormula 181 = .ok (.laload, 1) := by decide +kernel
theorem dL_isFormula_182 : decode cL_isFormula 182 = .ok (.goto 6, 3) := by decide +kernel
theorem dL_isFormula_185 : decode cL_isFormula 185 = .ok (.ldc2_w 101, 3) := by decide +kernel
theorem dL_isFormula_188 : decode cL_isFormula 188 = .ok (.lcmp, 1) := by decide +kernel
theorem dL_isFormula_189 : decode cL_isFormula 189 = .ok (.ifCond .ne 7, 3) := by decide +kernel
theorem dL_isFormula_192 : decode cL_isFormula 192 = .ok (.iconst 1, 1) := by decide +kernel
theorem dL_isFormula_193 : decode cL_isFormula 193 = .ok (.goto 4, 3) := by decide +kernel
theorem dL_isFormula_196 : decode cL_isFormula 196 = .ok (.iconst 0, 1) := by decide +kernel
theorem dL_isFormula_197 : decode cL_isFormula 197 = .ok (.ireturn, 1) := by decide +kernel
theorem dL_isAssigned_0 : decode cL_isAssigned 0 = .ok (.aload_n 0, 1) := by decide +kernel
theorem dL_isAssigned_1 : decode cL_isAssigned 1 = .ok (.iload_n 1, 1) := by decide +kernel
theorem dL_isAssigned_2 : decode cL_isAssigned 2 = .ok (.invokevirtual 49, 3) := by decide +kernel
theorem dL_isAssigned_5 : decode cL_isAssigned 5 = .ok (.lstore_n 3, 1) := by decide +kernel
theorem dL_isAssigned_6 : decode cL_isAssigned 6 = .ok (.aload_n 0, 1) := by decide +kernel
theorem dL_isAssigned_7 : decode cL_isAssigned 7 = .ok (.iconst 0, 1) := by decide +kernel
theorem dL_isAssigned_8 : decode cL_isAssigned 8 = .ok (.invokevirtual 74, 3) := by decide +kernel
theorem dL_isAssigned_11 : decode cL_isAssigned 11 = .ok (.iload_n 2, 1) := by decide +kernel
theorem dL_isAssigned_12 : decode cL_isAssigned 12 = .ok (.ishr, 1) := by decide +kernel
theorem dL_isAssigned_13 : decode cL_isAssigned 13 = .ok (.iconst 1, 1) := by decide +kernel
theorem dL_isAssigned_14 : decode cL_isAssigned 14 = .ok (.iand, 1) := by decide +kernel
theorem dL_isAssigned_15 : decode cL_isAssigned 15 = .ok (.iconst 1, 1) := by decide +kernel
theorem dL_isAssigned_16 : decode cL_isAssigned 16 = .ok (.if_icmp .ne 7, 3) := by decide +kernel
theorem dL_isAssigned_19 : decode cL_isAssigned 19 = .ok (.iconst 1, 1) := by decide +kernel
theorem dL_isAssigned_20 : decode cL_isAssigned 20 = .ok (.goto 4, 3) := by decide +kernel
theorem dL_isAssigned_23 : decode cL_isAssigned 23 = .ok (.iconst 0, 1) := by decide +kernel
theorem dL_isAssigned_24 : decode cL_isAssigned 24 = .ok (.istore 5, 2) := by decide +kernel
theorem dL_isAssigned_26 : decode cL_isAssigned 26 = .ok (.aload_n 0, 1) := by decide +kernel
theorem dL_isAssigned_27 : decode cL_isAssigned 27 = .ok (.iload_n 2, 1) := by decide +kernel
theorem dL_isAssigned_28 : decode cL_isAssigned 28 = .ok (.invokevirtual 109, 3) := by decide +kernel
theorem dL_isAssigned_31 : decode cL_isAssigned 31 = .ok (.lstore 6, 2) := by decide +kernel
theorem dL_isAssigned_33 : decode cL_isAssigned 33 = .ok (.aload_n 0, 1) := by decide +kernel
theorem dL_isAssigned_34 : decode cL_isAssigned 34 = .ok (.iload_n 1, 1) := by decide +kernel
theorem dL_isAssigned_35 : decode cL_isAssigned 35 = .ok (.iload_n 2, 1) := by decide +kernel
theorem dL_isAssigned_36 : decode cL_isAssigned 36 = .ok (.invokevirtual 112, 3) := by decide +kernel
theorem dL_isAssigned_39 : decode cL_isAssigned 39 = .ok (.lstore 8, 2) := by decide +kernel
theorem dL_isAssigned_41 : decode cL_isAssigned 41 = .ok (.iload 5, 2) := by decide +kernel
theorem dL_isAssigned_43 : decode cL_isAssigned 43 = .ok (.ifCond .ne 37, 3) := by decide +kernel
theorem dL_isAssigned_46 : decode cL_isAssigned 46 = .ok (.lload 8, 2) := by decide +kernel
theorem dL_isAssigned_48 : decode cL_isAssigned 48 = .ok (.ldc2_w 107, 3) := by decide +kernel
theorem dL_isAssigned_51 : decode cL_isAssigned 51 = .ok (.lcmp, 1) := by decide +kernel
theorem dL_isAssigned_52 : decode cL_isAssigned 52 = .ok (.ifCond .ne 26, 3) := by decide +kernel
theorem dL_isAssigned_55 : decode cL_isAssigned 55 = .ok (.lload 6, 2) := by decide +kernel
theorem dL_isAssigned_57 : decode cL_isAssigned 57 = .ok (.ldc2_w 107, 3) := by decide +kernel
theorem dL_isAssigned_60 : decode cL_isAssigned 60 = .ok (.lcmp, 1) := by decide +kernel
theorem dL_isAssigned_61 : decode cL_isAssigned 61 = .ok (.ifCond .ne 17, 3) := by decide +kernel
theorem dL_isAssigned_64 : decode cL_isAssigned 64 = .ok (.aload_n 0, 1) := by decide +kernel
theorem dL_isAssigned_65 : decode cL_isAssigned 65 = .ok (.iload_n 1, 1) := by decide +kernel
theorem dL_isAssigned_66 : decode cL_isAssigned 66 = .ok (.invokevirtual 49, 3) := by decide +kernel
theorem dL_isAssigned_69 : decode cL_isAssigned 69 = .ok (.lload_n 3, 1) := by decide +kernel
theorem dL_isAssigned_70 : decode cL_isAssigned 70 = .ok (.lcmp, 1) := by decide +kernel
theorem dL_isAssigned_71 : decode cL_isAssigned 71 = .ok (.ifCond .ne 7, 3) := by decide +kernel
theorem dL_isAssigned_74 : decode cL_isAssigned 74 = .ok (.iconst 1, 1) := by decide +kernel
theorem dL_isAssigned_75 : decode cL_isAssigned 75 = .ok (.goto 4, 3) := by decide +kernel
theorem dL_isAssigned_78 : decode cL_isAssigned 78 = .ok (.iconst 0, 1) := by decide +kernel
theorem dL_isAssigned_79 : decode cL_isAssigned 79 = .ok (.ireturn, 1) := by decide +kernel
theorem dL_isAssigned_80 : decode cL_isAssigned 80 = .ok (.lload 8, 2) := by decide +kernel
theorem dL_isAssigned_82 : decode cL_isAssigned 82 = .ok (.lload 6, 2) := by decide +kernel
theorem dL_isAssigned_84 : decode cL_isAssigned 84 = .ok (.lcmp, 1) := by decide +kernel
theorem dL_isAssigned_85 : decode cL_isAssigned 85 = .ok (.ifCond .ne 29, 3) := by decide +kernel
theorem dL_isAssigned_88 : decode cL_isAssigned 88 = .ok (.aload_n 0, 1) := by decide +kernel
theorem dL_isAssigned_89 : decode cL_isAssigned 89 = .ok (.iload_n 1, 1) := by decide +kernel
theorem dL_isAssigned_90 : decode cL_isAssigned 90 = .ok (.invokevirtual 49, 3) := by decide +kernel
theorem dL_isAssigned_93 : decode cL_isAssigned 93 = .ok (.lload 6, 2) := by decide +kernel
theorem dL_isAssigned_95 : decode cL_isAssigned 95 = .ok (.lconst 0, 1) := by decide +kernel
theorem dL_isAssigned_96 : decode cL_isAssigned 96 = .ok (.lcmp, 1) := by decide +kernel
theorem dL_isAssigned_97 : decode cL_isAssigned 97 = .ok (.ifCond .ge 7, 3) := by decide +kernel
theorem dL_isAssigned_100 : decode cL_isAssigned 100 = .ok (.lload_n 3, 1) := by decide +kernel
theorem dL_isAssigned_101 : decode cL_isAssigned 101 = .ok (.goto 5, 3) := by decide +kernel
theorem dL_isAssigned_104 : decode cL_isAssigned 104 = .ok (.lload 6, 2) := by decide +kernel
theorem dL_isAssigned_106 : decode cL_isAssigned 106 = .ok (.lcmp, 1) := by decide +kernel
theorem dL_isAssigned_107 : decode cL_isAssigned 107 = .ok (.ifCond .ne 7, 3) := by decide +kernel
theorem dL_isAssigned_110 : decode cL_isAssigned 110 = .ok (.iconst 1, 1) := by decide +kernel
theorem dL_isAssigned_111 : decode cL_isAssigned 111 = .ok (.goto 4, 3) := by decide +kernel
theorem dL_isAssigned_114 : decode cL_isAssigned 114 = .ok (.iconst 0, 1) := by decide +kernel
theorem dL_isAssigned_115 : decode cL_isAssigned 115 = .ok (.ireturn, 1) := by decide +kernel
theorem dL_isSettled_0 : decode cL_isSettled 0 = .ok (.aload_n 0, 1) := by decide +kernel
theorem dL_isSettled_1 : decode cL_isSettled 1 = .ok (.iconst 0, 1) := by decide +kernel
theorem dL_isSettled_2 : decode cL_isSettled 2 = .ok (.invokevirtual 74, 3) := by decide +kernel
theorem dL_isSettled_5 : decode cL_isSettled 5 = .ok (.iload_n 2, 1) := by decide +kernel
theorem dL_isSettled_6 : decode cL_isSettled 6 = .ok (.ishr, 1) := by decide +kernel
theorem dL_isSettled_7 : decode cL_isSettled 7 = .ok (.iconst 1, 1) := by decide +kernel
theorem dL_isSettled_8 : decode cL_isSettled 8 = .ok (.iand, 1) := by decide +kernel
theorem dL_isSettled_9 : decode cL_isSettled 9 = .ok (.ifCond .ne 20, 3) := by decide +kernel
theorem dL_isSettled_12 : decode cL_isSettled 12 = .ok (.aload_n 0, 1) := by decide +kernel
theorem dL_isSettled_13 : decode cL_isSettled 13 = .ok (.iload_n 1, 1) := by decide +kernel
theorem dL_isSettled_14 : decode cL_isSettled 14 = .ok (.iload_n 2, 1) := by decide +kernel
theorem dL_isSettled_15 : decode cL_isSettled 15 = .ok (.iload_n 3, 1) := by decide +kernel
theorem dL_isSettled_16 : decode cL_isSettled 16 = .ok (.invokevirtual 115, 3) := by decide +kernel
theorem dL_isSettled_19 : decode cL_isSettled 19 = .ok (.iconst (-1), 1) := by decide +kernel
theorem dL_isSettled_20 : decode cL_isSettled 20 = .ok (.if_icmp .ne 7, 3) := by decide +kernel
theorem dL_isSettled_23 : decode cL_isSettled 23 = .ok (.iconst 1, 1) := by decide +kernel
theorem dL_isSettled_24 : decode cL_isSettled 24 = .ok (.goto 4, 3) := by decide +kernel
theorem dL_isSettled_27 : decode cL_isSettled 27 = .ok (.iconst 0, 1) := by decide +kernel
theorem dL_isSettled_28 : decode cL_isSettled 28 = .ok (.ireturn, 1) := by decide +kernel
theorem dL_isSettled_29 : decode cL_isSettled 29 = .ok (.aload_n 0, 1) := by decide +kernel
theorem dL_isSettled_30 : decode cL_isSettled 30 = .ok (.iconst 0, 1) := by decide +kernel
theorem dL_isSettled_31 : decode cL_isSettled 31 = .ok (.invokevirtual 119, 3) := by decide +kernel
theorem dL_isSettled_34 : decode cL_isSettled 34 = .ok (.pop, 1) := by decide +kernel
theorem dL_isSettled_35 : decode cL_isSettled 35 = .ok (.aload_n 0, 1) := by decide +kernel
theorem dL_isSettled_36 : decode cL_isSettled 36 = .ok (.iload_n 1, 1) := by decide +kernel
theorem dL_isSettled_37 : decode cL_isSettled 37 = .ok (.iload_n 2, 1) := by decide +kernel
theorem dL_isSettled_38 : decode cL_isSettled 38 = .ok (.iload_n 3, 1) := by decide +kernel
theorem dL_isSettled_39 : decode cL_isSettled 39 = .ok (.invokevirtual 115, 3) := by decide +kernel
theorem dL_isSettled_42 : decode cL_isSettled 42 = .ok (.istore 4, 2) := by decide +kernel
theorem dL_isSettled_44 : decode cL_isSettled 44 = .ok (.aload_n 0, 1) := by decide +kernel
theorem dL_isSettled_45 : decode cL_isSettled 45 = .ok (.iload_n 1, 1) := by decide +kernel
theorem dL_isSettled_46 : decode cL_isSettled 46 = .ok (.invokevirtual 49, 3) := by decide +kernel
theorem dL_isSettled_49 : decode cL_isSettled 49 = .ok (.lstore 5, 2) := by decide +kernel
theorem dL_isSettled_51 : decode cL_isSettled 51 = .ok (.aload_n 0, 1) := by decide +kernel
theorem dL_isSettled_52 : decode cL_isSettled 52 = .ok (.iconst 0, 1) := by decide +kernel
theorem dL_isSettled_53 : decode cL_isSettled 53 = .ok (.invokevirtual 122, 3) := by decide +kernel
theorem dL_isSettled_56 : decode cL_isSettled 56 = .ok (.aload_n 0, 1) := by decide +kernel
theorem dL_isSettled_57 : decode cL_isSettled 57 = .ok (.iconst 0, 1) := by decide +kernel
theorem dL_isSettled_58 : decode cL_isSettled 58 = .ok (.invokevirtual 74, 3) := by decide +kernel
theorem dL_isSettled_61 : decode cL_isSettled 61 = .ok (.if_icmp .eq 5, 3) := by decide +kernel
theorem dL_isSettled_64 : decode cL_isSettled 64 = .ok (.iconst 0, 1) := by decide +kernel
theorem dL_isSettled_65 : decode cL_isSettled 65 = .ok (.ireturn, 1) := by decide +kernel
theorem dL_isSettled_66 : decode cL_isSettled 66 = .ok (.iconst 0, 1) := by decide +kernel
theorem dL_isSettled_67 : decode cL_isSettled 67 = .ok (.istore 7, 2) := by decide +kernel
theorem dL_isSettled_69 : decode cL_isSettled 69 = .ok (.iconst 1, 1) := by decide +kernel
theorem dL_isSettled_70 : decode cL_isSettled 70 = .ok (.istore 8, 2) := by decide +kernel
theorem dL_isSettled_72 : decode cL_isSettled 72 = .ok (.iload 8, 2) := by decide +kernel
theorem dL_isSettled_74 : decode cL_isSettled 74 = .ok (.ifCond .eq 66, 3) := by decide +kernel
theorem dL_isSettled_77 : decode cL_isSettled 77 = .ok (.iload 7, 2) := by decide +kernel
theorem dL_isSettled_79 : decode cL_isSettled 79 = .ok (.iload_n 3, 1) := by decide +kernel
theorem dL_isSettled_80 : decode cL_isSettled 80 = .ok (.if_icmp .ge 60, 3) := by decide +kernel
theorem dL_isSettled_83 : decode cL_isSettled 83 = .ok (.aload_n 0, 1) := by decide +kernel
theorem dL_isSettled_84 : decode cL_isSettled 84 = .ok (.iload_n 1, 1) := by decide +kernel
theorem dL_isSettled_85 : decode cL_isSettled 85 = .ok (.invokevirtual 49, 3) := by decide +kernel
theorem dL_isSettled_88 : decode cL_isSettled 88 = .ok (.lstore 9, 2) := by decide +kernel
theorem dL_isSettled_90 : decode cL_isSettled 90 = .ok (.aload_n 0, 1) := by decide +kernel
theorem dL_isSettled_91 : decode cL_isSettled 91 = .ok (.iload_n 1, 1) := by decide +kernel
theorem dL_isSettled_92 : decode cL_isSettled 92 = .ok (.iload_n 2, 1) := by decide +kernel
theorem dL_isSettled_93 : decode cL_isSettled 93 = .ok (.invokevirtual 112, 3) := by decide +kernel
theorem dL_isSettled_96 : decode cL_isSettled 96 = .ok (.lstore 11, 2) := by decide +kernel
theorem dL_isSettled_98 : decode cL_isSettled 98 = .ok (.iload 7, 2) := by decide +kernel
theorem dL_isSettled_100 : decode cL_isSettled 100 = .ok (.lload 11, 2) := by decide +kernel
theorem dL_isSettled_102 : decode cL_isSettled 102 = .ok (.lconst 0, 1) := by decide +kernel
theorem dL_isSettled_103 : decode cL_isSettled 103 = .ok (.lcmp, 1) := by decide +kernel
theorem dL_isSettled_104 : decode cL_isSettled 104 = .ok (.ifCond .ge 7, 3) := by decide +kernel
theorem dL_isSettled_107 : decode cL_isSettled 107 = .ok (.iconst 0, 1) := by decide +kernel
theorem dL_isSettled_108 : decode cL_isSettled 108 = .ok (.goto 4, 3) := by decide +kernel
theorem dL_isSettled_111 : decode cL_isSettled 111 = .ok (.iconst 1, 1) := by decide +kernel
theorem dL_isSettled_112 : decode cL_isSettled 112 = .ok (.iadd, 1) := by decide +kernel
theorem dL_isSettled_113 : decode cL_isSettled 113 = .ok (.istore 7, 2) := by decide +kernel
theorem dL_isSettled_115 : decode cL_isSettled 115 = .ok (.lload 11, 2) := by decide +kernel
theorem dL_isSettled_117 : decode cL_isSettled 117 = .ok (.lconst 0, 1) := by decide +kernel
theorem dL_isSettled_118 : decode cL_isSettled 118 = .ok (.lcmp, 1) := by decide +kernel
theorem dL_isSettled_119 : decode cL_isSettled 119 = .ok (.ifCond .lt 15, 3) := by decide +kernel
theorem dL_isSettled_122 : decode cL_isSettled 122 = .ok (.lload 11, 2) := by decide +kernel
theorem dL_isSettled_124 : decode cL_isSettled 124 = .ok (.lload 9, 2) := by decide +kernel
theorem dL_isSettled_126 : decode cL_isSettled 126 = .ok (.lcmp, 1) := by decide +kernel
theorem dL_isSettled_127 : decode cL_isSettled 127 = .ok (.ifCond .eq 7, 3) := by decide +kernel
theorem dL_isSettled_130 : decode cL_isSettled 130 = .ok (.iconst 1, 1) := by decide +kernel
theorem dL_isSettled_131 : decode cL_isSettled 131 = .ok (.goto 4, 3) := by decide +kernel
theorem dL_isSettled_134 : decode cL_isSettled 134 = .ok (.iconst 0, 1) := by decide +kernel
theorem dL_isSettled_135 : decode cL_isSettled 135 = .ok (.istore 8, 2) := by decide +kernel
theorem dL_isSettled_137 : decode cL_isSettled 137 = .ok (.goto (-65), 3) := by decide +kernel
theorem dL_isSettled_140 : decode cL_isSettled 140 = .ok (.iload 7, 2) := by decide +kernel
theorem dL_isSettled_142 : decode cL_isSettled 142 = .ok (.iload 4, 2) := by decide +kernel
theorem dL_isSettled_144 : decode cL_isSettled 144 = .ok (.if_icmp .ne 18, 3) := by decide +kernel
theorem dL_isSettled_147 : decode cL_isSettled 147 = .ok (.aload_n 0, 1) := by decide +kernel
theorem dL_isSettled_148 : decode cL_isSettled 148 = .ok (.iload_n 1, 1) := by decide +kernel
theorem dL_isSettled_149 : decode cL_isSettled 149 = .ok (.invokevirtual 49, 3) := by decide +kernel
theorem dL_isSettled_152 : decode cL_isSettled 152 = .ok (.lload 5, 2) := by decide +kernel
theorem dL_isSettled_154 : decode cL_isSettled 154 = .ok (.lcmp, 1) := by decide +kernel
theorem dL_isSettled_155 : decode cL_isSettled 155 = .ok (.ifCond .ne 7, 3) := by decide +kernel
theorem dL_isSettled_158 : decode cL_isSettled 158 = .ok (.iconst 1, 1) := by decide +kernel
theorem dL_isSettled_159 : decode cL_isSettled 159 = .ok (.goto 4, 3) := by decide +kernel
theorem dL_isSettled_162 : decode cL_isSettled 162 = .ok (.iconst 0, 1) := by decide +kernel
theorem dL_isSettled_163 : decode cL_isSettled 163 = .ok (.ireturn, 1) := by decide +kernel
theorem dL_isCell_0 : decode cL_isCell 0 = .ok (.aload_n 0, 1) := by decide +kernel
theorem dL_isCell_1 : decode cL_isCell 1 = .ok (.iload_n 1, 1) := by decide +kernel
theorem dL_isCell_2 : decode cL_isCell 2 = .ok (.invokevirtual 49, 3) := by decide +kernel
theorem dL_isCell_5 : decode cL_isCell 5 = .ok (.lstore 4, 2) := by decide +kernel
theorem dL_isCell_7 : decode cL_isCell 7 = .ok (.aload_n 0, 1) := by decide +kernel
theorem dL_isCell_8 : decode cL_isCell 8 = .ok (.iload_n 1, 1) := by decide +kernel
theorem dL_isCell_9 : decode cL_isCell 9 = .ok (.lload_n 2, 1) := by decide +kernel
theorem dL_isCell_10 : decode cL_isCell 10 = .ok (.invokevirtual 125, 3) := by decide +kernel
theorem dL_isCell_13 : decode cL_isCell 13 = .ok (.lload 4, 2) := by decide +kernel
theorem dL_isCell_15 : decode cL_isCell 15 = .ok (.lcmp, 1) := by decide +kernel
theorem dL_isCell_16 : decode cL_isCell 16 = .ok (.ifCond .ne 17, 3) := by decide +kernel
theorem dL_isCell_19 : decode cL_isCell 19 = .ok (.aload_n 0, 1) := by decide +kernel
theorem dL_isCell_20 : decode cL_isCell 20 = .ok (.iload_n 1, 1) := by decide +kernel
theorem dL_isCell_21 : decode cL_isCell 21 = .ok (.invokevirtual 49, 3) := by decide +kernel
theorem dL_isCell_24 : decode cL_isCell 24 = .ok (.lload_n 2, 1) := by decide +kernel
theorem dL_isCell_25 : decode cL_isCell 25 = .ok (.lcmp, 1) := by decide +kernel
theorem dL_isCell_26 : decode cL_isCell 26 = .ok (.ifCond .ne 7, 3) := by decide +kernel
theorem dL_isCell_29 : decode cL_isCell 29 = .ok (.iconst 1, 1) := by decide +kernel
theorem dL_isCell_30 : decode cL_isCell 30 = .ok (.goto 4, 3) := by decide +kernel
theorem dL_isCell_33 : decode cL_isCell 33 = .ok (.iconst 0, 1) := by decide +kernel
theorem dL_isCell_34 : decode cL_isCell 34 = .ok (.ireturn, 1) := by decide +kernel
theorem dL_value_0 : decode cL_value 0 = .ok (.aload_n 0, 1) := by decide +kernel
theorem dL_value_1 : decode cL_value 1 = .ok (.iload_n 1, 1) := by decide +kernel
theorem dL_value_2 : decode cL_value 2 = .ok (.ldc 129, 2) := by decide +kernel
theorem dL_value_4 : decode cL_value 4 = .ok (.invokestatic 41, 3) := by decide +kernel
theorem dL_value_7 : decode cL_value 7 = .ok (.i2l, 1) := by decide +kernel
theorem dL_value_8 : decode cL_value 8 = .ok (.aload_n 0, 1) := by decide +kernel
theorem dL_value_9 : decode cL_value 9 = .ok (.iload_n 1, 1) := by decide +kernel
theorem dL_value_10 : decode cL_value 10 = .ok (.iconst 1, 1) := by decide +kernel
theorem dL_value_11 : decode cL_value 11 = .ok (.iadd, 1) := by decide +kernel
theorem dL_value_12 : decode cL_value 12 = .ok (.ldc 130, 2) := by decide +kernel
theorem dL_value_14 : decode cL_value 14 = .ok (.invokestatic 41, 3) := by decide +kernel
theorem dL_value_17 : decode cL_value 17 = .ok (.i2l, 1) := by decide +kernel
theorem dL_value_18 : decode cL_value 18 = .ok (.lmul, 1) := by decide +kernel
theorem dL_value_19 : decode cL_value 19 = .ok (.lstore_n 2, 1) := by decide +kernel
theorem dL_value_20 : decode cL_value 20 = .ok (.aload_n 0, 1) := by decide +kernel
theorem dL_value_21 : decode cL_value 21 = .ok (.iload_n 1, 1) := by decide +kernel
theorem dL_value_22 : decode cL_value 22 = .ok (.iconst 2, 1) := by decide +kernel
theorem dL_value_23 : decode cL_value 23 = .ok (.iadd, 1) := by decide +kernel
theorem dL_value_24 : decode cL_value 24 = .ok (.iconst 5, 1) := by decide +kernel
theorem dL_value_25 : decode cL_value 25 = .ok (.invokestatic 41, 3) := by decide +kernel
theorem dL_value_28 : decode cL_value 28 = .ok (.istore 4, 2) := by decide +kernel
theorem dL_value_30 : decode cL_value 30 = .ok (.iload 4, 2) := by decide +kernel
theorem dL_value_32 : decode cL_value 32 = .ok (.ifCond .ne 7, 3) := by decide +kernel
theorem dL_value_35 : decode cL_value 35 = .ok (.lload_n 2, 1) := by decide +kernel
theorem dL_value_36 : decode cL_value 36 = .ok (.goto 75, 3) := by decide +kernel
theorem dL_value_39 : decode cL_value 39 = .ok (.iload 4, 2) := by decide +kernel
theorem dL_value_41 : decode cL_value 41 = .ok (.iconst 1, 1) := by decide +kernel
theorem dL_value_42 : decode cL_value 42 = .ok (.if_icmp .ne 18, 3) := by decide +kernel
theorem dL_value_45 : decode cL_value 45 = .ok (.ldc2_w 27, 3) := by decide +kernel
theorem dL_value_48 : decode cL_value 48 = .ok (.aload_n 0, 1) := by decide +kernel
theorem dL_value_49 : decode cL_value 49 = .ok (.iload_n 1, 1) := by decide +kernel
theorem dL_value_50 : decode cL_value 50 = .ok (.bipush 100, 2) := by decide +kernel
theorem dL_value_52 : decode cL_value 52 = .ok (.invokestatic 41, 3) := by decide +kernel
theorem dL_value_55 : decode cL_value 55 = .ok (.i2l, 1) := by decide +kernel
theorem dL_value_56 : decode cL_value 56 = .ok (.lsub, 1) := by decide +kernel
theorem dL_value_57 : decode cL_value 57 = .ok (.goto 54, 3) := by decide +kernel
theorem dL_value_60 : decode cL_value 60 = .ok (.iload 4, 2) := by decide +kernel
theorem dL_value_62 : decode cL_value 62 = .ok (.iconst 2, 1) := by decide +kernel
theorem dL_value_63 : decode cL_value 63 = .ok (.if_icmp .ne 19, 3) := by decide +kernel
theorem dL_value_66 : decode cL_value 66 = .ok (.aload_n 0, 1) := by decide +kernel
theorem dL_value_67 : decode cL_value 67 = .ok (.iload_n 1, 1) := by decide +kernel
theorem dL_value_68 : decode cL_value 68 = .ok (.sipush 10000, 3) := by decide +kernel
theorem dL_value_71 : decode cL_value 71 = .ok (.invokestatic 41, 3) := by decide +kernel
theorem dL_value_74 : decode cL_value 74 = .ok (.i2l, 1) := by decide +kernel
theorem dL_value_75 : decode cL_value 75 = .ok (.iconst 3, 1) := by decide +kernel
theorem dL_value_76 : decode cL_value 76 = .ok (.invokestatic 14, 3) := by decide +kernel
theorem dL_value_79 : decode cL_value 79 = .ok (.goto 32, 3) := by decide +kernel
theorem dL_value_82 : decode cL_value 82 = .ok (.iload 4, 2) := by decide +kernel
theorem dL_value_84 : decode cL_value 84 = .ok (.iconst 3, 1) := by decide +kernel
theorem dL_value_85 : decode cL_value 85 = .ok (.if_icmp .ne 18, 3) := by decide +kernel
theorem dL_value_88 : decode cL_value 88 = .ok (.aload_n 0, 1) := by decide +kernel
theorem dL_value_89 : decode cL_value 89 = .ok (.iload_n 1, 1) := by decide +kernel
theorem dL_value_90 : decode cL_value 90 = .ok (.ldc 131, 2) := by decide +kernel
theorem dL_value_92 : decode cL_value 92 = .ok (.invokestatic 41, 3) := by decide +kernel
theorem dL_value_95 : decode cL_value 95 = .ok (.i2l, 1) := by decide +kernel
theorem dL_value_96 : decode cL_value 96 = .ok (.iconst 2, 1) := by decide +kernel
theorem dL_value_97 : decode cL_value 97 = .ok (.invokestatic 14, 3) := by decide +kernel
theorem dL_value_100 : decode cL_value 100 = .ok (.goto 11, 3) := by decide +kernel
theorem dL_value_103 : decode cL_value 103 = .ok (.aload_n 0, 1) := by decide +kernel
theorem dL_value_104 : decode cL_value 104 = .ok (.iload_n 1, 1) := by decide +kernel
theorem dL_value_105 : decode cL_value 105 = .ok (.bipush 100, 2) := by decide +kernel
theorem dL_value_107 : decode cL_value 107 = .ok (.invokestatic 41, 3) := by decide +kernel
theorem dL_value_110 : decode cL_value 110 = .ok (.i2l, 1) := by decide +kernel
theorem dL_value_111 : decode cL_value 111 = .ok (.lreturn, 1) := by decide +kernel
theorem dL_isRoot_0 : decode cL_isRoot 0 = .ok (.lload_n 1, 1) := by decide +kernel
theorem dL_isRoot_1 : decode cL_isRoot 1 = .ok (.iload_n 3, 1) := by decide +kernel
theorem dL_isRoot_2 : decode cL_isRoot 2 = .ok (.invokestatic 20, 3) := by decide +kernel
theorem dL_isRoot_5 : decode cL_isRoot 5 = .ok (.lstore 4, 2) := by decide +kernel
theorem dL_isRoot_7 : decode cL_isRoot 7 = .ok (.aload_n 0, 1) := by decide +kernel
theorem dL_isRoot_8 : decode cL_isRoot 8 = .ok (.lload_n 1, 1) := by decide +kernel
theorem dL_isRoot_9 : decode cL_isRoot 9 = .ok (.iload_n 3, 1) := by decide +kernel
theorem dL_isRoot_10 : decode cL_isRoot 10 = .ok (.invokevirtual 132, 3) := by decide +kernel
theorem dL_isRoot_13 : decode cL_isRoot 13 = .ok (.i2l, 1) := by decide +kernel
theorem dL_isRoot_14 : decode cL_isRoot 14 = .ok (.lload_n 1, 1) := by decide +kernel
theorem dL_isRoot_15 : decode cL_isRoot 15 = .ok (.iload_n 3, 1) := by decide +kernel
theorem dL_isRoot_16 : decode cL_isRoot 16 = .ok (.aload_n 0, 1) := by decide +kernel
theorem dL_isRoot_17 : decode cL_isRoot 17 = .ok (.iconst 3, 1) := by decide +kernel
theorem dL_isRoot_18 : decode cL_isRoot 18 = .ok (.invokevirtual 74, 3) := by decide +kernel
theorem dL_isRoot_21 : decode cL_isRoot 21 = .ok (.invokestatic 78, 3) := by decide +kernel
theorem dL_isRoot_24 : decode cL_isRoot 24 = .ok (.lcmp, 1) := by decide +kernel
theorem dL_isRoot_25 : decode cL_isRoot 25 = .ok (.ifCond .ne 21, 3) := by decide +kernel
theorem dL_isRoot_28 : decode cL_isRoot 28 = .ok (.aload_n 0, 1) := by decide +kernel
theorem dL_isRoot_29 : decode cL_isRoot 29 = .ok (.lload_n 1, 1) := by decide +kernel
theorem dL_isRoot_30 : decode cL_isRoot 30 = .ok (.iload_n 3, 1) := by decide +kernel
theorem dL_isRoot_31 : decode cL_isRoot 31 = .ok (.invokevirtual 135, 3) := by decide +kernel
theorem dL_isRoot_34 : decode cL_isRoot 34 = .ok (.lload_n 1, 1) := by decide +kernel
theorem dL_isRoot_35 : decode cL_isRoot 35 = .ok (.lload 4, 2) := by decide +kernel
theorem dL_isRoot_37 : decode cL_isRoot 37 = .ok (.iload_n 3, 1) := by decide +kernel
theorem dL_isRoot_38 : decode cL_isRoot 38 = .ok (.invokestatic 14, 3) := by decide +kernel
theorem dL_isRoot_41 : decode cL_isRoot 41 = .ok (.lsub, 1) := by decide +kernel
theorem dL_isRoot_42 : decode cL_isRoot 42 = .ok (.lcmp, 1) := by decide +kernel
theorem dL_isRoot_43 : decode cL_isRoot 43 = .ok (.ifCond .eq 5, 3) := by decide +kernel
theorem dL_isRoot_46 : decode cL_isRoot 46 = .ok (.iconst 0, 1) := by decide +kernel
theorem dL_isRoot_47 : decode cL_isRoot 47 = .ok (.ireturn, 1) := by decide +kernel
theorem dL_isRoot_48 : decode cL_isRoot 48 = .ok (.lconst 0, 1) := by decide +kernel
theorem dL_isRoot_49 : decode cL_isRoot 49 = .ok (.lstore 6, 2) := by decide +kernel
theorem dL_isRoot_51 : decode cL_isRoot 51 = .ok (.aload_n 0, 1) := by decide +kernel
theorem dL_isRoot_52 : decode cL_isRoot 52 = .ok (.lload_n 1, 1) := by decide +kernel
theorem dL_isRoot_53 : decode cL_isRoot 53 = .ok (.iload_n 3, 1) := by decide +kernel
theorem dL_isRoot_54 : decode cL_isRoot 54 = .ok (.iconst (-1), 1) := by decide +kernel
theorem dL_isRoot_55 : decode cL_isRoot 55 = .ok (.iconst 0, 1) := by decide +kernel
theorem dL_isRoot_56 : decode cL_isRoot 56 = .ok (.invokevirtual 138, 3) := by decide +kernel
theorem dL_isRoot_59 : decode cL_isRoot 59 = .ok (.l2i, 1) := by decide +kernel
theorem dL_isRoot_60 : decode cL_isRoot 60 = .ok (.istore 8, 2) := by decide +kernel
theorem dL_isRoot_62 : decode cL_isRoot 62 = .ok (.iconst 0, 1) := by decide +kernel
theorem dL_isRoot_63 : decode cL_isRoot 63 = .ok (.istore 9, 2) := by decide +kernel
theorem dL_isRoot_65 : decode cL_isRoot 65 = .ok (.iload 9, 2) := by decide +kernel
theorem dL_isRoot_67 : decode cL_isRoot 67 = .ok (.iload 8, 2) := by decide +kernel
theorem dL_isRoot_69 : decode cL_isRoot 69 = .ok (.if_icmp .ge 143, 3) := by decide +kernel
theorem dL_isRoot_72 : decode cL_isRoot 72 = .ok (.lconst 1, 1) := by decide +kernel
theorem dL_isRoot_73 : decode cL_isRoot 73 = .ok (.iload 8, 2) := by decide +kernel
theorem dL_isRoot_75 : decode cL_isRoot 75 = .ok (.iconst 1, 1) := by decide +kernel
theorem dL_isRoot_76 : decode cL_isRoot 76 = .ok (.isub, 1) := by decide +kernel
theorem dL_isRoot_77 : decode cL_isRoot 77 = .ok (.iload 9, 2) := by decide +kernel
theorem dL_isRoot_79 : decode cL_isRoot 79 = .ok (.isub, 1) := by decide +kernel
theorem dL_isRoot_80 : decode cL_isRoot 80 = .ok (.lshl, 1) := by decide +kernel
theorem dL_isRoot_81 : decode cL_isRoot 81 = .ok (.lstore 10, 2) := by decide +kernel
theorem dL_isRoot_83 : decode cL_isRoot 83 = .ok (.lload 6, 2) := by decide +kernel
theorem dL_isRoot_85 : decode cL_isRoot 85 = .ok (.lload 10, 2) := by decide +kernel
theorem dL_isRoot_87 : decode cL_isRoot 87 = .ok (.ladd, 1) := by decide +kernel
theorem dL_isRoot_88 : decode cL_isRoot 88 = .ok (.iload_n 3, 1) := by decide +kernel
theorem dL_isRoot_89 : decode cL_isRoot 89 = .ok (.invokestatic 14, 3) := by decide +kernel
theorem dL_isRoot_92 : decode cL_isRoot 92 = .ok (.lload_n 1, 1) := by decide +kernel
theorem dL_isRoot_93 : decode cL_isRoot 93 = .ok (.lcmp, 1) := by decide +kernel
theorem dL_isRoot_94 : decode cL_isRoot 94 = .ok (.ifCond .gt 7, 3) := by decide +kernel
theorem dL_isRoot_97 : decode cL_isRoot 97 = .ok (.iconst 1, 1) := by decide +kernel
theorem dL_isRoot_98 : decode cL_isRoot 98 = .ok (.goto 4, 3) := by decide +kernel
theorem dL_isRoot_101 : decode cL_isRoot 101 = .ok (.iconst 0, 1) := by decide +kernel
theorem dL_isRoot_102 : decode cL_isRoot 102 = .ok (.istore 12, 2) := by decide +kernel
theorem dL_isRoot_104 : decode cL_isRoot 104 = .ok (.lload 6, 2) := by decide +kernel
theorem dL_isRoot_106 : decode cL_isRoot 106 = .ok (.iload 12, 2) := by decide +kernel
theorem dL_isRoot_108 : decode cL_isRoot 108 = .ok (.ifCond .eq 8, 3) := by decide +kernel
theorem dL_isRoot_111 : decode cL_isRoot 111 = .ok (.lload 10, 2) := by decide +kernel
theorem dL_isRoot_113 : decode cL_isRoot 113 = .ok (.goto 4, 3) := by decide +kernel
theorem dL_isRoot_116 : decode cL_isRoot 116 = .ok (.lconst 0, 1) := by decide +kernel
theorem dL_isRoot_117 : decode cL_isRoot 117 = .ok (.ladd, 1) := by decide +kernel
theorem dL_isRoot_118 : decode cL_isRoot 118 = .ok (.lstore 6, 2) := by decide +kernel
theorem dL_isRoot_120 : decode cL_isRoot 120 = .ok (.aload_n 0, 1) := by decide +kernel
theorem dL_isRoot_121 : decode cL_isRoot 121 = .ok (.lload_n 1, 1) := by decide +kernel
theorem dL_isRoot_122 : decode cL_isRoot 122 = .ok (.iload_n 3, 1) := by decide +kernel
theorem dL_isRoot_123 : decode cL_isRoot 123 = .ok (.iload 9, 2) := by decide +kernel
theorem dL_isRoot_125 : decode cL_isRoot 125 = .ok (.iconst 0, 1) := by decide +kernel
theorem dL_isRoot_126 : decode cL_isRoot 126 = .ok (.invokevirtual 138, 3) := by decide +kernel
theorem dL_isRoot_129 : decode cL_isRoot 129 = .ok (.lload 10, 2) := by decide +kernel
theorem dL_isRoot_131 : decode cL_isRoot 131 = .ok (.lcmp, 1) := by decide +kernel
theorem dL_isRoot_132 : decode cL_isRoot 132 = .ok (.ifCond .ne 72, 3) := by decide +kernel
theorem dL_isRoot_135 : decode cL_isRoot 135 = .ok (.aload_n 0, 1) := by decide +kernel
theorem dL_isRoot_136 : decode cL_isRoot 136 = .ok (.lload_n 1, 1) := by decide +kernel
theorem dL_isRoot_137 : decode cL_isRoot 137 = .ok (.iload_n 3, 1) := by decide +kernel
theorem dL_isRoot_138 : decode cL_isRoot 138 = .ok (.iload 9, 2) := by decide +kernel
theorem dL_isRoot_140 : decode cL_isRoot 140 = .ok (.iconst 1, 1) := by decide +kernel
theorem dL_isRoot_141 : decode cL_isRoot 141 = .ok (.invokevirtual 138, 3) := by decide +kernel
theorem dL_isRoot_144 : decode cL_isRoot 144 = .ok (.iload 12, 2) := by decide +kernel
theorem dL_isRoot_146 : decode cL_isRoot 146 = .ok (.ifCond .eq 7, 3) := by decide +kernel
theorem dL_isRoot_149 : decode cL_isRoot 149 = .ok (.lconst 1, 1) := by decide +kernel
theorem dL_isRoot_150 : decode cL_isRoot 150 = .ok (.goto 4, 3) := by decide +kernel
theorem dL_isRoot_153 : decode cL_isRoot 153 = .ok (.lconst 0, 1) := by decide +kernel
theorem dL_isRoot_154 : decode cL_isRoot 154 = .ok (.lcmp, 1) := by decide +kernel
theorem dL_isRoot_155 : decode cL_isRoot 155 = .ok (.ifCond .ne 49, 3) := by decide +kernel
theorem dL_isRoot_158 : decode cL_isRoot 158 = .ok (.aload_n 0, 1) := by decide +kernel
theorem dL_isRoot_159 : decode cL_isRoot 159 = .ok (.lload_n 1, 1) := by decide +kernel
theorem dL_isRoot_160 : decode cL_isRoot 160 = .ok (.iload_n 3, 1) := by decide +kernel
theorem dL_isRoot_161 : decode cL_isRoot 161 = .ok (.iload 9, 2) := by decide +kernel
theorem dL_isRoot_163 : decode cL_isRoot 163 = .ok (.iconst 2, 1) := by decide +kernel
theorem dL_isRoot_164 : decode cL_isRoot 164 = .ok (.invokevirtual 138, 3) := by decide +kernel
theorem dL_isRoot_167 : decode cL_isRoot 167 = .ok (.lload 6, 2) := by decide +kernel
theorem dL_isRoot_169 : decode cL_isRoot 169 = .ok (.lcmp, 1) := by decide +kernel
theorem dL_isRoot_170 : decode cL_isRoot 170 = .ok (.ifCond .ne 34, 3) := by decide +kernel
theorem dL_isRoot_173 : decode cL_isRoot 173 = .ok (.aload_n 0, 1) := by decide +kernel
theorem dL_isRoot_174 : decode cL_isRoot 174 = .ok (.lload_n 1, 1) := by decide +kernel
theorem dL_isRoot_175 : decode cL_isRoot 175 = .ok (.iload_n 3, 1) := by decide +kernel
theorem dL_isRoot_176 : decode cL_isRoot 176 = .ok (.iload 9, 2) := by decide +kernel
theorem dL_isRoot_178 : decode cL_isRoot 178 = .ok (.iconst 3, 1) := by decide +kernel
theorem dL_isRoot_179 : decode cL_isRoot 179 = .ok (.invokevirtual 138, 3) := by decide +kernel
theorem dL_isRoot_182 : decode cL_isRoot 182 = .ok (.lload_n 1, 1) := by decide +kernel
theorem dL_isRoot_183 : decode cL_isRoot 183 = .ok (.lload 6, 2) := by decide +kernel
theorem dL_isRoot_185 : decode cL_isRoot 185 = .ok (.iload_n 3, 1) := by decide +kernel
theorem dL_isRoot_186 : decode cL_isRoot 186 = .ok (.invokestatic 14, 3) := by decide +kernel
theorem dL_isRoot_189 : decode cL_isRoot 189 = .ok (.lsub, 1) := by decide +kernel
theorem dL_isRoot_190 : decode cL_isRoot 190 = .ok (.lcmp, 1) := by decide +kernel
theorem dL_isRoot_191 : decode cL_isRoot 191 = .ok (.ifCond .ne 13, 3) := by decide +kernel
theorem dL_isRoot_194 : decode cL_isRoot 194 = .ok (.iload 9, 2) := by decide +kernel
theorem dL_isRoot_196 : decode cL_isRoot 196 = .ok (.ifCond .ne 10, 3) := by decide +kernel
theorem dL_isRoot_199 : decode cL_isRoot 199 = .ok (.iload 12, 2) := by decide +kernel
theorem dL_isRoot_201 : decode cL_isRoot 201 = .ok (.ifCond .ne 5, 3) := by decide +kernel
theorem dL_isRoot_204 : decode cL_isRoot 204 = .ok (.iconst 0, 1) := by decide +kernel
theorem dL_isRoot_205 : decode cL_isRoot 205 = .ok (.ireturn, 1) := by decide +kernel
theorem dL_isRoot_206 : decode cL_isRoot 206 = .ok (.iinc 9 1, 3) := by decide +kernel
theorem dL_isRoot_209 : decode cL_isRoot 209 = .ok (.goto (-144), 3) := by decide +kernel
theorem dL_isRoot_212 : decode cL_isRoot 212 = .ok (.lload 6, 2) := by decide +kernel
theorem dL_isRoot_214 : decode cL_isRoot 214 = .ok (.lload 4, 2) := by decide +kernel
theorem dL_isRoot_216 : decode cL_isRoot 216 = .ok (.lcmp, 1) := by decide +kernel
theorem dL_isRoot_217 : decode cL_isRoot 217 = .ok (.ifCond .ne 36, 3) := by decide +kernel
theorem dL_isRoot_220 : decode cL_isRoot 220 = .ok (.aload_n 0, 1) := by decide +kernel
theorem dL_isRoot_221 : decode cL_isRoot 221 = .ok (.lload_n 1, 1) := by decide +kernel
theorem dL_isRoot_222 : decode cL_isRoot 222 = .ok (.iload_n 3, 1) := by decide +kernel
theorem dL_isRoot_223 : decode cL_isRoot 223 = .ok (.iload 8, 2) := by decide +kernel
theorem dL_isRoot_225 : decode cL_isRoot 225 = .ok (.iconst 0, 1) := by decide +kernel
theorem dL_isRoot_226 : decode cL_isRoot 226 = .ok (.invokevirtual 138, 3) := by decide +kernel
theorem dL_isRoot_229 : decode cL_isRoot 229 = .ok (.ldc2_w 142, 3) := by decide +kernel
theorem dL_isRoot_232 : decode cL_isRoot 232 = .ok (.lcmp, 1) := by decide +kernel
theorem dL_isRoot_233 : decode cL_isRoot 233 = .ok (.ifCond .ne 20, 3) := by decide +kernel
theorem dL_isRoot_236 : decode cL_isRoot 236 = .ok (.lconst 1, 1) := by decide +kernel
theorem dL_isRoot_237 : decode cL_isRoot 237 = .ok (.iload 8, 2) := by decide +kernel
theorem dL_isRoot_239 : decode cL_isRoot 239 = .ok (.lshl, 1) := by decide +kernel
theorem dL_isRoot_240 : decode cL_isRoot 240 = .ok (.iload_n 3, 1) := by decide +kernel
theorem dL_isRoot_241 : decode cL_isRoot 241 = .ok (.invokestatic 14, 3) := by decide +kernel
theorem dL_isRoot_244 : decode cL_isRoot 244 = .ok (.lload_n 1, 1) := by decide +kernel
theorem dL_isRoot_245 : decode cL_isRoot 245 = .ok (.lcmp, 1) := by decide +kernel
theorem dL_isRoot_246 : decode cL_isRoot 246 = .ok (.ifCond .le 7, 3) := by decide +kernel
theorem dL_isRoot_249 : decode cL_isRoot 249 = .ok (.iconst 1, 1) := by decide +kernel
theorem dL_isRoot_250 : decode cL_isRoot 250 = .ok (.goto 4, 3) := by decide +kernel
theorem dL_isRoot_253 : decode cL_isRoot 253 = .ok (.iconst 0, 1) := by decide +kernel
theorem dL_isRoot_254 : decode cL_isRoot 254 = .ok (.ireturn, 1) := by decide +kernel
theorem dL_isAct_0 : decode cL_isAct 0 = .ok (.aload_n 1, 1) := by decide +kernel
theorem dL_isAct_1 : decode cL_isAct 1 = .ok (.iload_n 2, 1) := by decide +kernel
theorem dL_isAct_2 : decode cL_isAct 2 = .ok (.iconst 1, 1) := by decide +kernel
theorem dL_isAct_3 : decode cL_isAct 3 = .ok (.iadd, 1) := by decide +kernel
theorem dL_isAct_4 : decode cL_isAct 4 = .ok (.bipush 8, 2) := by decide +kernel
theorem dL_isAct_6 : decode cL_isAct 6 = .ok (.invokestatic 41, 3) := by decide +kernel
theorem dL_isAct_9 : decode cL_isAct 9 = .ok (.istore 5, 2) := by decide +kernel
theorem dL_isAct_11 : decode cL_isAct 11 = .ok (.aload_n 1, 1) := by decide +kernel
theorem dL_isAct_12 : decode cL_isAct 12 = .ok (.iload_n 2, 1) := by decide +kernel
theorem dL_isAct_13 : decode cL_isAct 13 = .ok (.iconst 2, 1) := by decide +kernel
theorem dL_isAct_14 : decode cL_isAct 14 = .ok (.iadd, 1) := by decide +kernel
theorem dL_isAct_15 : decode cL_isAct 15 = .ok (.bipush 6, 2) := by decide +kernel
theorem dL_isAct_17 : decode cL_isAct 17 = .ok (.invokestatic 41, 3) := by decide +kernel
theorem dL_isAct_20 : decode cL_isAct 20 = .ok (.istore 6, 2) := by decide +kernel
theorem dL_isAct_22 : decode cL_isAct 22 = .ok (.aload_n 1, 1) := by decide +kernel
theorem dL_isAct_23 : decode cL_isAct 23 = .ok (.iload_n 2, 1) := by decide +kernel
theorem dL_isAct_24 : decode cL_isAct 24 = .ok (.bipush 9, 2) := by decide +kernel
theorem dL_isAct_26 : decode cL_isAct 26 = .ok (.invokestatic 41, 3) := by decide +kernel
theorem dL_isAct_29 : decode cL_isAct 29 = .ok (.tableswitch 164 0 6 #[43, 43, 43, 77, 86, 106, 142], 43) := by decide +kernel
theorem dL_isAct_72 : decode cL_isAct 72 = .ok (.aload_n 0, 1) := by decide +kernel
theorem dL_isAct_73 : decode cL_isAct 73 = .ok (.iload 6, 2) := by decide +kernel
theorem dL_isAct_75 : decode cL_isAct 75 = .ok (.aload_n 1, 1) := by decide +kernel
theorem dL_isAct_76 : decode cL_isAct 76 = .ok (.iload_n 2, 1) := by decide +kernel
theorem dL_isAct_77 : decode cL_isAct 77 = .ok (.iconst 3, 1) := by decide +kernel
theorem dL_isAct_78 : decode cL_isAct 78 = .ok (.iadd, 1) := by decide +kernel
theorem dL_isAct_79 : decode cL_isAct 79 = .ok (.aload_n 3, 1) := by decide +kernel
theorem dL_isAct_80 : decode cL_isAct 80 = .ok (.aload 4, 2) := by decide +kernel
theorem dL_isAct_82 : decode cL_isAct 82 = .ok (.invokestatic 144, 3) := by decide +kernel
theorem dL_isAct_85 : decode cL_isAct 85 = .ok (.ifCond .eq 19, 3) := by decide +kernel
theorem dL_isAct_88 : decode cL_isAct 88 = .ok (.aload_n 0, 1) := by decide +kernel
theorem dL_isAct_89 : decode cL_isAct 89 = .ok (.iload 6, 2) := by decide +kernel
theorem dL_isAct_91 : decode cL_isAct 91 = .ok (.aload_n 3, 1) := by decide +kernel
theorem dL_isAct_92 : decode cL_isAct 92 = .ok (.aload 4, 2) := by decide +kernel
theorem dL_isAct_94 : decode cL_isAct 94 = .ok (.invokestatic 148, 3) := by decide +kernel
theorem dL_isAct_97 : decode cL_isAct 97 = .ok (.ifCond .eq 7, 3) := by decide +kernel
theorem dL_isAct_100 : decode cL_isAct 100 = .ok (.iconst 1, 1) := by decide +kernel
theorem dL_isAct_101 : decode cL_isAct 101 = .ok (.goto 4, 3) := by decide +kernel
theorem dL_isAct_104 : decode cL_isAct 104 = .ok (.iconst 0, 1) := by decide +kernel
theorem dL_isAct_105 : decode cL_isAct 105 = .ok (.ireturn, 1) := by decide +kernel
theorem dL_isAct_106 : decode cL_isAct 106 = .ok (.aload_n 0, 1) := by decide +kernel
theorem dL_isAct_107 : decode cL_isAct 107 = .ok (.iload 5, 2) := by decide +kernel
theorem dL_isAct_109 : decode cL_isAct 109 = .ok (.iload 6, 2) := by decide +kernel
theorem dL_isAct_111 : decode cL_isAct 111 = .ok (.invokestatic 152, 3) := by decide +kernel
theorem dL_isAct_114 : decode cL_isAct 114 = .ok (.ireturn, 1) := by decide +kernel
theorem dL_isAct_115 : decode cL_isAct 115 = .ok (.aload_n 0, 1) := by decide +kernel
theorem dL_isAct_116 : decode cL_isAct 116 = .ok (.iload 5, 2) := by decide +kernel
theorem dL_isAct_118 : decode cL_isAct 118 = .ok (.iload 6, 2) := by decide +kernel
theorem dL_isAct_120 : decode cL_isAct 120 = .ok (.iconst 1, 1) := by decide +kernel
theorem dL_isAct_121 : decode cL_isAct 121 = .ok (.aload_n 1, 1) := by decide +kernel
theorem dL_isAct_122 : decode cL_isAct 122 = .ok (.iload_n 2, 1) := by decide +kernel
theorem dL_isAct_123 : decode cL_isAct 123 = .ok (.iconst 3, 1) := by decide +kernel
theorem dL_isAct_124 : decode cL_isAct 124 = .ok (.iadd, 1) := by decide +kernel
theorem dL_isAct_125 : decode cL_isAct 125 = .ok (.bipush 20, 2) := by decide +kernel
theorem dL_isAct_127 : decode cL_isAct 127 = .ok (.invokestatic 41, 3) := by decide +kernel
theorem dL_isAct_130 : decode cL_isAct 130 = .ok (.iadd, 1) := by decide +kernel
theorem dL_isAct_131 : decode cL_isAct 131 = .ok (.invokestatic 156, 3) := by decide +kernel
theorem dL_isAct_134 : decode cL_isAct 134 = .ok (.ireturn, 1) := by decide +kernel
theorem dL_isAct_135 : decode cL_isAct 135 = .ok (.aload_n 1, 1) := by decide +kernel
theorem dL_isAct_136 : decode cL_isAct 136 = .ok (.iload_n 2, 1) := by decide +kernel
theorem dL_isAct_137 : decode cL_isAct 137 = .ok (.iconst 3, 1) := by decide +kernel
theorem dL_isAct_138 : decode cL_isAct 138 = .ok (.iadd, 1) := by decide +kernel
theorem dL_isAct_139 : decode cL_isAct 139 = .ok (.iconst 3, 1) := by decide +kernel
theorem dL_isAct_140 : decode cL_isAct 140 = .ok (.invokestatic 41, 3) := by decide +kernel
theorem dL_isAct_143 : decode cL_isAct 143 = .ok (.istore 7, 2) := by decide +kernel
theorem dL_isAct_145 : decode cL_isAct 145 = .ok (.aload_n 0, 1) := by decide +kernel
theorem dL_isAct_146 : decode cL_isAct 146 = .ok (.iconst 0, 1) := by decide +kernel
theorem dL_isAct_147 : decode cL_isAct 147 = .ok (.iload 7, 2) := by decide +kernel
theorem dL_isAct_149 : decode cL_isAct 149 = .ok (.invokevirtual 160, 3) := by decide +kernel
theorem dL_isAct_152 : decode cL_isAct 152 = .ok (.ifCond .lt 17, 3) := by decide +kernel
theorem dL_isAct_155 : decode cL_isAct 155 = .ok (.aload_n 0, 1) := by decide +kernel
theorem dL_isAct_156 : decode cL_isAct 156 = .ok (.iconst 3, 1) := by decide +kernel
theorem dL_isAct_157 : decode cL_isAct 157 = .ok (.invokevirtual 74, 3) := by decide +kernel
theorem dL_isAct_160 : decode cL_isAct 160 = .ok (.iload 7, 2) := by decide +kernel
theorem dL_isAct_162 : decode cL_isAct 162 = .ok (.if_icmp .ne 7, 3) := by decide +kernel
theorem dL_isAct_165 : decode cL_isAct 165 = .ok (.iconst 1, 1) := by decide +kernel
theorem dL_isAct_166 : decode cL_isAct 166 = .ok (.goto 4, 3) := by decide +kernel
theorem dL_isAct_169 : decode cL_isAct 169 = .ok (.iconst 0, 1) := by decide +kernel
theorem dL_isAct_170 : decode cL_isAct 170 = .ok (.ireturn, 1) := by decide +kernel
theorem dL_isAct_171 : decode cL_isAct 171 = .ok (.aload_n 0, 1) := by decide +kernel
theorem dL_isAct_172 : decode cL_isAct 172 = .ok (.aload_n 1, 1) := by decide +kernel
theorem dL_isAct_173 : decode cL_isAct 173 = .ok (.iload_n 2, 1) := by decide +kernel
theorem dL_isAct_174 : decode cL_isAct 174 = .ok (.iconst 3, 1) := by decide +kernel
theorem dL_isAct_175 : decode cL_isAct 175 = .ok (.iadd, 1) := by decide +kernel
theorem dL_isAct_176 : decode cL_isAct 176 = .ok (.invokestatic 163, 3) := by decide +kernel
theorem dL_isAct_179 : decode cL_isAct 179 = .ok (.iconst 2, 1) := by decide +kernel
theorem dL_isAct_180 : decode cL_isAct 180 = .ok (.aload_n 1, 1) := by decide +kernel
theorem dL_isAct_181 : decode cL_isAct 181 = .ok (.iload_n 2, 1) := by decide +kernel
theorem dL_isAct_182 : decode cL_isAct 182 = .ok (.iconst 1, 1) := by decide +kernel
theorem dL_isAct_183 : decode cL_isAct 183 = .ok (.iadd, 1) := by decide +kernel
theorem dL_isAct_184 : decode cL_isAct 184 = .ok (.iconst 2, 1) := by decide +kernel
theorem dL_isAct_185 : decode cL_isAct 185 = .ok (.invokestatic 41, 3) := by decide +kernel
theorem dL_isAct_188 : decode cL_isAct 188 = .ok (.iadd, 1) := by decide +kernel
theorem dL_isAct_189 : decode cL_isAct 189 = .ok (.invokestatic 166, 3) := by decide +kernel
theorem dL_isAct_192 : decode cL_isAct 192 = .ok (.ireturn, 1) := by decide +kernel
theorem dL_isAct_193 : decode cL_isAct 193 = .ok (.aload_n 0, 1) := by decide +kernel
theorem dL_isAct_194 : decode cL_isAct 194 = .ok (.iload 5, 2) := by decide +kernel
theorem dL_isAct_196 : decode cL_isAct 196 = .ok (.aload_n 1, 1) := by decide +kernel
theorem dL_isAct_197 : decode cL_isAct 197 = .ok (.iload_n 2, 1) := by decide +kernel
theorem dL_isAct_198 : decode cL_isAct 198 = .ok (.iconst 3, 1) := by decide +kernel
theorem dL_isAct_199 : decode cL_isAct 199 = .ok (.iadd, 1) := by decide +kernel
theorem dL_isAct_200 : decode cL_isAct 200 = .ok (.invokestatic 163, 3) := by decide +kernel
theorem dL_isAct_203 : decode cL_isAct 203 = .ok (.invokestatic 170, 3) := by decide +kernel
theorem dL_isAct_206 : decode cL_isAct 206 = .ok (.ireturn, 1) := by decide +kernel
theorem dL_law_0 : decode cL_law 0 = .ok (.new 32, 3) := by decide +kernel
theorem dL_law_3 : decode cL_law 3 = .ok (.dup, 1) := by decide +kernel
theorem dL_law_4 : decode cL_law 4 = .ok (.invokespecial 174, 3) := by decide +kernel
theorem dL_law_7 : decode cL_law 7 = .ok (.astore_n 1, 1) := by decide +kernel
theorem dL_law_8 : decode cL_law 8 = .ok (.bipush 64, 2) := by decide +kernel
theorem dL_law_10 : decode cL_law 10 = .ok (.newarray .long, 2) := by decide +kernel
theorem dL_law_12 : decode cL_law 12 = .ok (.astore_n 2, 1) := by decide +kernel
theorem dL_law_13 : decode cL_law 13 = .ok (.iconst 5, 1) := by decide +kernel
theorem dL_law_14 : decode cL_law 14 = .ok (.newarray .int, 2) := by decide +kernel
theorem dL_law_16 : decode cL_law 16 = .ok (.astore_n 3, 1) := by decide +kernel
theorem dL_law_17 : decode cL_law 17 = .ok (.iconst 0, 1) := by decide +kernel
theorem dL_law_18 : decode cL_law 18 = .ok (.istore 4, 2) := by decide +kernel
theorem dL_law_20 : decode cL_law 20 = .ok (.iload 4, 2) := by decide +kernel
theorem dL_law_22 : decode cL_law 22 = .ok (.bipush 8, 2) := by decide +kernel
theorem dL_law_24 : decode cL_law 24 = .ok (.if_icmp .ge 28, 3) := by decide +kernel
theorem dL_law_27 : decode cL_law 27 = .ok (.aload_n 1, 1) := by decide +kernel
theorem dL_law_28 : decode cL_law 28 = .ok (.iload 4, 2) := by decide +kernel
theorem dL_law_30 : decode cL_law 30 = .ok (.aload_n 0, 1) := by decide +kernel
theorem dL_law_31 : decode cL_law 31 = .ok (.iconst 3, 1) := by decide +kernel
theorem dL_law_32 : decode cL_law 32 = .ok (.iload 4, 2) := by decide +kernel
theorem dL_law_34 : decode cL_law 34 = .ok (.imul, 1) := by decide +kernel
theorem dL_law_35 : decode cL_law 35 = .ok (.invokestatic 163, 3) := by decide +kernel
theorem dL_law_38 : decode cL_law 38 = .ok (.invokestatic 170, 3) := by decide +kernel
theorem dL_law_41 : decode cL_law 41 = .ok (.ifCond .ne 5, 3) := by decide +kernel
theorem dL_law_44 : decode cL_law 44 = .ok (.iconst 0, 1) := by decide +kernel
theorem dL_law_45 : decode cL_law 45 = .ok (.ireturn, 1) := by decide +kernel
theorem dL_law_46 : decode cL_law 46 = .ok (.iinc 4 1, 3) := by decide +kernel
theorem dL_law_49 : decode cL_law 49 = .ok (.goto (-29), 3) := by decide +kernel
theorem dL_law_52 : decode cL_law 52 = .ok (.iconst 0, 1) := by decide +kernel
theorem dL_law_53 : decode cL_law 53 = .ok (.istore 4, 2) := by decide +kernel
theorem dL_law_55 : decode cL_law 55 = .ok (.iload 4, 2) := by decide +kernel
theorem dL_law_57 : decode cL_law 57 = .ok (.bipush 60, 2) := by decide +kernel
theorem dL_law_59 : decode cL_law 59 = .ok (.if_icmp .ge 29, 3) := by decide +kernel
theorem dL_law_62 : decode cL_law 62 = .ok (.aload_n 1, 1) := by decide +kernel
theorem dL_law_63 : decode cL_law 63 = .ok (.aload_n 0, 1) := by decide +kernel
theorem dL_law_64 : decode cL_law 64 = .ok (.bipush 24, 2) := by decide +kernel
theorem dL_law_66 : decode cL_law 66 = .ok (.bipush 9, 2) := by decide +kernel
theorem dL_law_68 : decode cL_law 68 = .ok (.iload 4, 2) := by decide +kernel
theorem dL_law_70 : decode cL_law 70 = .ok (.imul, 1) := by decide +kernel
theorem dL_law_71 : decode cL_law 71 = .ok (.iadd, 1) := by decide +kernel
theorem dL_law_72 : decode cL_law 72 = .ok (.aload_n 2, 1) := by decide +kernel
theorem dL_law_73 : decode cL_law 73 = .ok (.aload_n 3, 1) := by decide +kernel
theorem dL_law_74 : decode cL_law 74 = .ok (.invokestatic 175, 3) := by decide +kernel
theorem dL_law_77 : decode cL_law 77 = .ok (.ifCond .ne 5, 3) := by decide +kernel
theorem dL_law_80 : decode cL_law 80 = .ok (.iconst 0, 1) := by decide +kernel
theorem dL_law_81 : decode cL_law 81 = .ok (.ireturn, 1) := by decide +kernel
theorem dL_law_82 : decode cL_law 82 = .ok (.iinc 4 1, 3) := by decide +kernel
theorem dL_law_85 : decode cL_law 85 = .ok (.goto (-30), 3) := by decide +kernel
theorem dL_law_88 : decode cL_law 88 = .ok (.iconst 1, 1) := by decide +kernel
theorem dL_law_89 : decode cL_law 89 = .ok (.ireturn, 1) := by decide +kernel
