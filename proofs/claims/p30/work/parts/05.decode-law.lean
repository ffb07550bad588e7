theorem dL_cell_0 : decode cL_cell 0 = .ok (.iload_n 1, 1) := by decide +kernel
theorem dL_cell_1 : decode cL_cell 1 = .ok (.aload_n 0, 1) := by decide +kernel
theorem dL_cell_2 : decode cL_cell 2 = .ok (.arraylength, 1) := by decide +kernel
theorem dL_cell_3 : decode cL_cell 3 = .ok (.if_icmp .ge 9, 3) := by decide +kernel
theorem dL_cell_6 : decode cL_cell 6 = .ok (.aload_n 0, 1) := by decide +kernel
theorem dL_cell_7 : decode cL_cell 7 = .ok (.iload_n 1, 1) := by decide +kernel
theorem dL_cell_8 : decode cL_cell 8 = .ok (.iaload, 1) := by decide +kernel
theorem dL_cell_9 : decode cL_cell 9 = .ok (.goto 16, 3) := by decide +kernel
theorem dL_cell_12 : decode cL_cell 12 = .ok (.sipush 7919, 3) := by decide +kernel
theorem dL_cell_15 : decode cL_cell 15 = .ok (.iload_n 1, 1) := by decide +kernel
theorem dL_cell_16 : decode cL_cell 16 = .ok (.bipush 37, 2) := by decide +kernel
theorem dL_cell_18 : decode cL_cell 18 = .ok (.iadd, 1) := by decide +kernel
theorem dL_cell_19 : decode cL_cell 19 = .ok (.imul, 1) := by decide +kernel
theorem dL_cell_20 : decode cL_cell 20 = .ok (.iload_n 1, 1) := by decide +kernel
theorem dL_cell_21 : decode cL_cell 21 = .ok (.bipush 67, 2) := by decide +kernel
theorem dL_cell_23 : decode cL_cell 23 = .ok (.iadd, 1) := by decide +kernel
theorem dL_cell_24 : decode cL_cell 24 = .ok (.imul, 1) := by decide +kernel
theorem dL_cell_25 : decode cL_cell 25 = .ok (.ireturn, 1) := by decide +kernel
theorem dL_low_0 : decode cL_low 0 = .ok (.iload_n 0, 1) := by decide +kernel
theorem dL_low_1 : decode cL_low 1 = .ok (.ldc 7, 2) := by decide +kernel
theorem dL_low_3 : decode cL_low 3 = .ok (.iand, 1) := by decide +kernel
theorem dL_low_4 : decode cL_low 4 = .ok (.iload_n 1, 1) := by decide +kernel
theorem dL_low_5 : decode cL_low 5 = .ok (.irem, 1) := by decide +kernel
theorem dL_low_6 : decode cL_low 6 = .ok (.ireturn, 1) := by decide +kernel
theorem dL_all_0 : decode cL_all 0 = .ok (.ldc2_w 8, 3) := by decide +kernel
theorem dL_all_3 : decode cL_all 3 = .ok (.lstore_n 1, 1) := by decide +kernel
theorem dL_all_4 : decode cL_all 4 = .ok (.iconst 0, 1) := by decide +kernel
theorem dL_all_5 : decode cL_all 5 = .ok (.istore_n 3, 1) := by decide +kernel
theorem dL_all_6 : decode cL_all 6 = .ok (.iload_n 3, 1) := by decide +kernel
theorem dL_all_7 : decode cL_all 7 = .ok (.bipush 15, 2) := by decide +kernel
theorem dL_all_9 : decode cL_all 9 = .ok (.if_icmp .ge 22, 3) := by decide +kernel
theorem dL_all_12 : decode cL_all 12 = .ok (.ldc2_w 10, 3) := by decide +kernel
theorem dL_all_15 : decode cL_all 15 = .ok (.lload_n 1, 1) := by decide +kernel
theorem dL_all_16 : decode cL_all 16 = .ok (.lmul, 1) := by decide +kernel
theorem dL_all_17 : decode cL_all 17 = .ok (.aload_n 0, 1) := by decide +kernel
theorem dL_all_18 : decode cL_all 18 = .ok (.iload_n 3, 1) := by decide +kernel
theorem dL_all_19 : decode cL_all 19 = .ok (.invokevirtual 12, 3) := by decide +kernel
theorem dL_all_22 : decode cL_all 22 = .ok (.i2l, 1) := by decide +kernel
theorem dL_all_23 : decode cL_all 23 = .ok (.ladd, 1) := by decide +kernel
theorem dL_all_24 : decode cL_all 24 = .ok (.lstore_n 1, 1) := by decide +kernel
theorem dL_all_25 : decode cL_all 25 = .ok (.iinc 3 1, 3) := by decide +kernel
theorem dL_all_28 : decode cL_all 28 = .ok (.goto (-22), 3) := by decide +kernel
theorem dL_all_31 : decode cL_all 31 = .ok (.iconst 0, 1) := by decide +kernel
theorem dL_all_32 : decode cL_all 32 = .ok (.istore_n 3, 1) := by decide +kernel
theorem dL_all_33 : decode cL_all 33 = .ok (.iload_n 3, 1) := by decide +kernel
theorem dL_all_34 : decode cL_all 34 = .ok (.bipush 7, 2) := by decide +kernel
theorem dL_all_36 : decode cL_all 36 = .ok (.aload_n 0, 1) := by decide +kernel
theorem dL_all_37 : decode cL_all 37 = .ok (.iconst 1, 1) := by decide +kernel
theorem dL_all_38 : decode cL_all 38 = .ok (.invokevirtual 12, 3) := by decide +kernel
theorem dL_all_41 : decode cL_all 41 = .ok (.imul, 1) := by decide +kernel
theorem dL_all_42 : decode cL_all 42 = .ok (.if_icmp .ge 29, 3) := by decide +kernel
theorem dL_all_45 : decode cL_all 45 = .ok (.ldc2_w 10, 3) := by decide +kernel
theorem dL_all_48 : decode cL_all 48 = .ok (.lload_n 1, 1) := by decide +kernel
theorem dL_all_49 : decode cL_all 49 = .ok (.lmul, 1) := by decide +kernel
theorem dL_all_50 : decode cL_all 50 = .ok (.aload_n 0, 1) := by decide +kernel
theorem dL_all_51 : decode cL_all 51 = .ok (.iload_n 3, 1) := by decide +kernel
theorem dL_all_52 : decode cL_all 52 = .ok (.bipush 7, 2) := by decide +kernel
theorem dL_all_54 : decode cL_all 54 = .ok (.idiv, 1) := by decide +kernel
theorem dL_all_55 : decode cL_all 55 = .ok (.iload_n 3, 1) := by decide +kernel
theorem dL_all_56 : decode cL_all 56 = .ok (.bipush 7, 2) := by decide +kernel
theorem dL_all_58 : decode cL_all 58 = .ok (.irem, 1) := by decide +kernel
theorem dL_all_59 : decode cL_all 59 = .ok (.invokevirtual 18, 3) := by decide +kernel
theorem dL_all_62 : decode cL_all 62 = .ok (.i2l, 1) := by decide +kernel
theorem dL_all_63 : decode cL_all 63 = .ok (.ladd, 1) := by decide +kernel
theorem dL_all_64 : decode cL_all 64 = .ok (.lstore_n 1, 1) := by decide +kernel
theorem dL_all_65 : decode cL_all 65 = .ok (.iinc 3 1, 3) := by decide +kernel
theorem dL_all_68 : decode cL_all 68 = .ok (.goto (-35), 3) := by decide +kernel
theorem dL_all_71 : decode cL_all 71 = .ok (.iconst 0, 1) := by decide +kernel
theorem dL_all_72 : decode cL_all 72 = .ok (.istore_n 3, 1) := by decide +kernel
theorem dL_all_73 : decode cL_all 73 = .ok (.iload_n 3, 1) := by decide +kernel
theorem dL_all_74 : decode cL_all 74 = .ok (.bipush 7, 2) := by decide +kernel
theorem dL_all_76 : decode cL_all 76 = .ok (.aload_n 0, 1) := by decide +kernel
theorem dL_all_77 : decode cL_all 77 = .ok (.iconst 2, 1) := by decide +kernel
theorem dL_all_78 : decode cL_all 78 = .ok (.invokevirtual 12, 3) := by decide +kernel
theorem dL_all_81 : decode cL_all 81 = .ok (.imul, 1) := by decide +kernel
theorem dL_all_82 : decode cL_all 82 = .ok (.if_icmp .ge 29, 3) := by decide +kernel
theorem dL_all_85 : decode cL_all 85 = .ok (.ldc2_w 10, 3) := by decide +kernel
theorem dL_all_88 : decode cL_all 88 = .ok (.lload_n 1, 1) := by decide +kernel
theorem dL_all_89 : decode cL_all 89 = .ok (.lmul, 1) := by decide +kernel
theorem dL_all_90 : decode cL_all 90 = .ok (.aload_n 0, 1) := by decide +kernel
theorem dL_all_91 : decode cL_all 91 = .ok (.iload_n 3, 1) := by decide +kernel
theorem dL_all_92 : decode cL_all 92 = .ok (.bipush 7, 2) := by decide +kernel
theorem dL_all_94 : decode cL_all 94 = .ok (.idiv, 1) := by decide +kernel
theorem dL_all_95 : decode cL_all 95 = .ok (.iload_n 3, 1) := by decide +kernel
theorem dL_all_96 : decode cL_all 96 = .ok (.bipush 7, 2) := by decide +kernel
theorem dL_all_98 : decode cL_all 98 = .ok (.irem, 1) := by decide +kernel
theorem dL_all_99 : decode cL_all 99 = .ok (.invokevirtual 22, 3) := by decide +kernel
theorem dL_all_102 : decode cL_all 102 = .ok (.i2l, 1) := by decide +kernel
theorem dL_all_103 : decode cL_all 103 = .ok (.ladd, 1) := by decide +kernel
theorem dL_all_104 : decode cL_all 104 = .ok (.lstore_n 1, 1) := by decide +kernel
theorem dL_all_105 : decode cL_all 105 = .ok (.iinc 3 1, 3) := by decide +kernel
theorem dL_all_108 : decode cL_all 108 = .ok (.goto (-35), 3) := by decide +kernel
theorem dL_all_111 : decode cL_all 111 = .ok (.iconst 0, 1) := by decide +kernel
theorem dL_all_112 : decode cL_all 112 = .ok (.istore_n 3, 1) := by decide +kernel
theorem dL_all_113 : decode cL_all 113 = .ok (.iload_n 3, 1) := by decide +kernel
theorem dL_all_114 : decode cL_all 114 = .ok (.bipush 9, 2) := by decide +kernel
theorem dL_all_116 : decode cL_all 116 = .ok (.aload_n 0, 1) := by decide +kernel
theorem dL_all_117 : decode cL_all 117 = .ok (.iconst 3, 1) := by decide +kernel
theorem dL_all_118 : decode cL_all 118 = .ok (.invokevirtual 12, 3) := by decide +kernel
theorem dL_all_121 : decode cL_all 121 = .ok (.imul, 1) := by decide +kernel
theorem dL_all_122 : decode cL_all 122 = .ok (.if_icmp .ge 29, 3) := by decide +kernel
theorem dL_all_125 : decode cL_all 125 = .ok (.ldc2_w 10, 3) := by decide +kernel
theorem dL_all_128 : decode cL_all 128 = .ok (.lload_n 1, 1) := by decide +kernel
theorem dL_all_129 : decode cL_all 129 = .ok (.lmul, 1) := by decide +kernel
theorem dL_all_130 : decode cL_all 130 = .ok (.aload_n 0, 1) := by decide +kernel
theorem dL_all_131 : decode cL_all 131 = .ok (.iload_n 3, 1) := by decide +kernel
theorem dL_all_132 : decode cL_all 132 = .ok (.bipush 9, 2) := by decide +kernel
theorem dL_all_134 : decode cL_all 134 = .ok (.idiv, 1) := by decide +kernel
theorem dL_all_135 : decode cL_all 135 = .ok (.iload_n 3, 1) := by decide +kernel
theorem dL_all_136 : decode cL_all 136 = .ok (.bipush 9, 2) := by decide +kernel
theorem dL_all_138 : decode cL_all 138 = .ok (.irem, 1) := by decide +kernel
theorem dL_all_139 : decode cL_all 139 = .ok (.invokevirtual 25, 3) := by decide +kernel
theorem dL_all_142 : decode cL_all 142 = .ok (.i2l, 1) := by decide +kernel
theorem dL_all_143 : decode cL_all 143 = .ok (.ladd, 1) := by decide +kernel
theorem dL_all_144 : decode cL_all 144 = .ok (.lstore_n 1, 1) := by decide +kernel
theorem dL_all_145 : decode cL_all 145 = .ok (.iinc 3 1, 3) := by decide +kernel
theorem dL_all_148 : decode cL_all 148 = .ok (.goto (-35), 3) := by decide +kernel
theorem dL_all_151 : decode cL_all 151 = .ok (.iconst 0, 1) := by decide +kernel
theorem dL_all_152 : decode cL_all 152 = .ok (.istore_n 3, 1) := by decide +kernel
theorem dL_all_153 : decode cL_all 153 = .ok (.iload_n 3, 1) := by decide +kernel
theorem dL_all_154 : decode cL_all 154 = .ok (.iconst 5, 1) := by decide +kernel
theorem dL_all_155 : decode cL_all 155 = .ok (.aload_n 0, 1) := by decide +kernel
theorem dL_all_156 : decode cL_all 156 = .ok (.bipush 8, 2) := by decide +kernel
theorem dL_all_158 : decode cL_all 158 = .ok (.invokevirtual 12, 3) := by decide +kernel
theorem dL_all_161 : decode cL_all 161 = .ok (.imul, 1) := by decide +kernel
theorem dL_all_162 : decode cL_all 162 = .ok (.if_icmp .ge 27, 3) := by decide +kernel
theorem dL_all_165 : decode cL_all 165 = .ok (.ldc2_w 10, 3) := by decide +kernel
theorem dL_all_168 : decode cL_all 168 = .ok (.lload_n 1, 1) := by decide +kernel
theorem dL_all_169 : decode cL_all 169 = .ok (.lmul, 1) := by decide +kernel
theorem dL_all_170 : decode cL_all 170 = .ok (.aload_n 0, 1) := by decide +kernel
theorem dL_all_171 : decode cL_all 171 = .ok (.iload_n 3, 1) := by decide +kernel
theorem dL_all_172 : decode cL_all 172 = .ok (.iconst 5, 1) := by decide +kernel
theorem dL_all_173 : decode cL_all 173 = .ok (.idiv, 1) := by decide +kernel
theorem dL_all_174 : decode cL_all 174 = .ok (.iload_n 3, 1) := by decide +kernel
theorem dL_all_175 : decode cL_all 175 = .ok (.iconst 5, 1) := by decide +kernel
theorem dL_all_176 : decode cL_all 176 = .ok (.irem, 1) := by decide +kernel
theorem dL_all_177 : decode cL_all 177 = .ok (.invokevirtual 28, 3) := by decide +kernel
theorem dL_all_180 : decode cL_all 180 = .ok (.i2l, 1) := by decide +kernel
theorem dL_all_181 : decode cL_all 181 = .ok (.ladd, 1) := by decide +kernel
theorem dL_all_182 : decode cL_all 182 = .ok (.lstore_n 1, 1) := by decide +kernel
theorem dL_all_183 : decode cL_all 183 = .ok (.iinc 3 1, 3) := by decide +kernel
theorem dL_all_186 : decode cL_all 186 = .ok (.goto (-33), 3) := by decide +kernel
theorem dL_all_189 : decode cL_all 189 = .ok (.iconst 0, 1) := by decide +kernel
theorem dL_all_190 : decode cL_all 190 = .ok (.istore_n 3, 1) := by decide +kernel
theorem dL_all_191 : decode cL_all 191 = .ok (.iload_n 3, 1) := by decide +kernel
theorem dL_all_192 : decode cL_all 192 = .ok (.sipush 200, 3) := by decide +kernel
theorem dL_all_195 : decode cL_all 195 = .ok (.if_icmp .ge 22, 3) := by decide +kernel
theorem dL_all_198 : decode cL_all 198 = .ok (.ldc2_w 10, 3) := by decide +kernel
theorem dL_all_201 : decode cL_all 201 = .ok (.lload_n 1, 1) := by decide +kernel
theorem dL_all_202 : decode cL_all 202 = .ok (.lmul, 1) := by decide +kernel
theorem dL_all_203 : decode cL_all 203 = .ok (.aload_n 0, 1) := by decide +kernel
theorem dL_all_204 : decode cL_all 204 = .ok (.iload_n 3, 1) := by decide +kernel
theorem dL_all_205 : decode cL_all 205 = .ok (.invokevirtual 31, 3) := by decide +kernel
theorem dL_all_208 : decode cL_all 208 = .ok (.i2l, 1) := by decide +kernel
theorem dL_all_209 : decode cL_all 209 = .ok (.ladd, 1) := by decide +kernel
theorem dL_all_210 : decode cL_all 210 = .ok (.lstore_n 1, 1) := by decide +kernel
theorem dL_all_211 : decode cL_all 211 = .ok (.iinc 3 1, 3) := by decide +kernel
theorem dL_all_214 : decode cL_all 214 = .ok (.goto (-23), 3) := by decide +kernel
theorem dL_all_217 : decode cL_all 217 = .ok (.lload_n 1, 1) := by decide +kernel
theorem dL_all_218 : decode cL_all 218 = .ok (.lreturn, 1) := by decide +kernel
theorem dL_isSound_0 : decode cL_isSound 0 = .ok (.aload_n 0, 1) := by decide +kernel
theorem dL_isSound_1 : decode cL_isSound 1 = .ok (.iconst 0, 1) := by decide +kernel
theorem dL_isSound_2 : decode cL_isSound 2 = .ok (.invokevirtual 12, 3) := by decide +kernel
theorem dL_isSound_5 : decode cL_isSound 5 = .ok (.istore_n 2, 1) := by decide +kernel
theorem dL_isSound_6 : decode cL_isSound 6 = .ok (.iconst 0, 1) := by decide +kernel
theorem dL_isSound_7 : decode cL_isSound 7 = .ok (.istore_n 3, 1) := by decide +kernel
theorem dL_isSound_8 : decode cL_isSound 8 = .ok (.iconst 0, 1) := by decide +kernel
theorem dL_isSound_9 : decode cL_isSound 9 = .ok (.istore 4, 2) := by decide +kernel
theorem dL_isSound_11 : decode cL_isSound 11 = .ok (.iconst 0, 1) := by decide +kernel
theorem dL_isSound_12 : decode cL_isSound 12 = .ok (.istore 5, 2) := by decide +kernel
theorem dL_isSound_14 : decode cL_isSound 14 = .ok (.iconst 0, 1) := by decide +kernel
theorem dL_isSound_15 : decode cL_isSound 15 = .ok (.istore 6, 2) := by decide +kernel
theorem dL_isSound_17 : decode cL_isSound 17 = .ok (.iload 6, 2) := by decide +kernel
theorem dL_isSound_19 : decode cL_isSound 19 = .ok (.aload_n 0, 1) := by decide +kernel
theorem dL_isSound_20 : decode cL_isSound 20 = .ok (.iconst 1, 1) := by decide +kernel
theorem dL_isSound_21 : decode cL_isSound 21 = .ok (.invokevirtual 12, 3) := by decide +kernel
theorem dL_isSound_24 : decode cL_isSound 24 = .ok (.if_icmp .ge 114, 3) := by decide +kernel
theorem dL_isSound_27 : decode cL_isSound 27 = .ok (.iload_n 3, 1) := by decide +kernel
theorem dL_isSound_28 : decode cL_isSound 28 = .ok (.aload_n 0, 1) := by decide +kernel
theorem dL_isSound_29 : decode cL_isSound 29 = .ok (.iload 6, 2) := by decide +kernel
theorem dL_isSound_31 : decode cL_isSound 31 = .ok (.iconst 2, 1) := by decide +kernel
theorem dL_isSound_32 : decode cL_isSound 32 = .ok (.invokevirtual 18, 3) := by decide +kernel
theorem dL_isSound_35 : decode cL_isSound 35 = .ok (.iadd, 1) := by decide +kernel
theorem dL_isSound_36 : decode cL_isSound 36 = .ok (.istore_n 3, 1) := by decide +kernel
theorem dL_isSound_37 : decode cL_isSound 37 = .ok (.iload 4, 2) := by decide +kernel
theorem dL_isSound_39 : decode cL_isSound 39 = .ok (.aload_n 0, 1) := by decide +kernel
theorem dL_isSound_40 : decode cL_isSound 40 = .ok (.iload 6, 2) := by decide +kernel
theorem dL_isSound_42 : decode cL_isSound 42 = .ok (.bipush 6, 2) := by decide +kernel
theorem dL_isSound_44 : decode cL_isSound 44 = .ok (.invokevirtual 18, 3) := by decide +kernel
theorem dL_isSound_47 : decode cL_isSound 47 = .ok (.iadd, 1) := by decide +kernel
theorem dL_isSound_48 : decode cL_isSound 48 = .ok (.istore 4, 2) := by decide +kernel
theorem dL_isSound_50 : decode cL_isSound 50 = .ok (.iload 5, 2) := by decide +kernel
theorem dL_isSound_52 : decode cL_isSound 52 = .ok (.aload_n 0, 1) := by decide +kernel
theorem dL_isSound_53 : decode cL_isSound 53 = .ok (.iload 6, 2) := by decide +kernel
theorem dL_isSound_55 : decode cL_isSound 55 = .ok (.iconst 3, 1) := by decide +kernel
theorem dL_isSound_56 : decode cL_isSound 56 = .ok (.invokevirtual 18, 3) := by decide +kernel
theorem dL_isSound_59 : decode cL_isSound 59 = .ok (.aload_n 0, 1) := by decide +kernel
theorem dL_isSound_60 : decode cL_isSound 60 = .ok (.iload 6, 2) := by decide +kernel
theorem dL_isSound_62 : decode cL_isSound 62 = .ok (.iconst 4, 1) := by decide +kernel
theorem dL_isSound_63 : decode cL_isSound 63 = .ok (.invokevirtual 18, 3) := by decide +kernel
theorem dL_isSound_66 : decode cL_isSound 66 = .ok (.isub, 1) := by decide +kernel
theorem dL_isSound_67 : decode cL_isSound 67 = .ok (.iadd, 1) := by decide +kernel
theorem dL_isSound_68 : decode cL_isSound 68 = .ok (.istore 5, 2) := by decide +kernel
theorem dL_isSound_70 : decode cL_isSound 70 = .ok (.aload_n 0, 1) := by decide +kernel
theorem dL_isSound_71 : decode cL_isSound 71 = .ok (.iload 6, 2) := by decide +kernel
theorem dL_isSound_73 : decode cL_isSound 73 = .ok (.iconst 1, 1) := by decide +kernel
theorem dL_isSound_74 : decode cL_isSound 74 = .ok (.invokevirtual 18, 3) := by decide +kernel
theorem dL_isSound_77 : decode cL_isSound 77 = .ok (.ifCond .lt 53, 3) := by decide +kernel
theorem dL_isSound_80 : decode cL_isSound 80 = .ok (.aload_n 0, 1) := by decide +kernel
theorem dL_isSound_81 : decode cL_isSound 81 = .ok (.iload 6, 2) := by decide +kernel
theorem dL_isSound_83 : decode cL_isSound 83 = .ok (.iconst 1, 1) := by decide +kernel
theorem dL_isSound_84 : decode cL_isSound 84 = .ok (.invokevirtual 18, 3) := by decide +kernel
theorem dL_isSound_87 : decode cL_isSound 87 = .ok (.bipush 12, 2) := by decide +kernel
theorem dL_isSound_89 : decode cL_isSound 89 = .ok (.if_icmp .gt 41, 3) := by decide +kernel
theorem dL_isSound_92 : decode cL_isSound 92 = .ok (.aload_n 0, 1) := by decide +kernel
theorem dL_isSound_93 : decode cL_isSound 93 = .ok (.iload 6, 2) := by decide +kernel
theorem dL_isSound_95 : decode cL_isSound 95 = .ok (.iconst 2, 1) := by decide +kernel
theorem dL_isSound_96 : decode cL_isSound 96 = .ok (.invokevirtual 34, 3) := by decide +kernel
theorem dL_isSound_99 : decode cL_isSound 99 = .ok (.aload_n 0, 1) := by decide +kernel
theorem dL_isSound_100 : decode cL_isSound 100 = .ok (.iload 6, 2) := by decide +kernel
theorem dL_isSound_102 : decode cL_isSound 102 = .ok (.bipush 60, 2) := by decide +kernel
theorem dL_isSound_104 : decode cL_isSound 104 = .ok (.invokevirtual 34, 3) := by decide +kernel
theorem dL_isSound_107 : decode cL_isSound 107 = .ok (.if_icmp .lt 23, 3) := by decide +kernel
theorem dL_isSound_110 : decode cL_isSound 110 = .ok (.aload_n 0, 1) := by decide +kernel
theorem dL_isSound_111 : decode cL_isSound 111 = .ok (.iload 6, 2) := by decide +kernel
theorem dL_isSound_113 : decode cL_isSound 113 = .ok (.iconst 2, 1) := by decide +kernel
theorem dL_isSound_114 : decode cL_isSound 114 = .ok (.invokevirtual 34, 3) := by decide +kernel
theorem dL_isSound_117 : decode cL_isSound 117 = .ok (.bipush 10, 2) := by decide +kernel
theorem dL_isSound_119 : decode cL_isSound 119 = .ok (.aload_n 0, 1) := by decide +kernel
theorem dL_isSound_120 : decode cL_isSound 120 = .ok (.iload 6, 2) := by decide +kernel
theorem dL_isSound_122 : decode cL_isSound 122 = .ok (.iconst 0, 1) := by decide +kernel
theorem dL_isSound_123 : decode cL_isSound 123 = .ok (.invokevirtual 18, 3) := by decide +kernel
theorem dL_isSound_126 : decode cL_isSound 126 = .ok (.imul, 1) := by decide +kernel
theorem dL_isSound_127 : decode cL_isSound 127 = .ok (.if_icmp .le 5, 3) := by decide +kernel
theorem dL_isSound_130 : decode cL_isSound 130 = .ok (.iconst 0, 1) := by decide +kernel
theorem dL_isSound_131 : decode cL_isSound 131 = .ok (.ireturn, 1) := by decide +kernel
theorem dL_isSound_132 : decode cL_isSound 132 = .ok (.iinc 6 1, 3) := by decide +kernel
theorem dL_isSound_135 : decode cL_isSound 135 = .ok (.goto (-118), 3) := by decide +kernel
theorem dL_isSound_138 : decode cL_isSound 138 = .ok (.iconst 0, 1) := by decide +kernel
theorem dL_isSound_139 : decode cL_isSound 139 = .ok (.istore 6, 2) := by decide +kernel
theorem dL_isSound_141 : decode cL_isSound 141 = .ok (.iconst 0, 1) := by decide +kernel
theorem dL_isSound_142 : decode cL_isSound 142 = .ok (.istore 7, 2) := by decide +kernel
theorem dL_isSound_144 : decode cL_isSound 144 = .ok (.iconst 0, 1) := by decide +kernel
theorem dL_isSound_145 : decode cL_isSound 145 = .ok (.istore 8, 2) := by decide +kernel
theorem dL_isSound_147 : decode cL_isSound 147 = .ok (.iconst 0, 1) := by decide +kernel
theorem dL_isSound_148 : decode cL_isSound 148 = .ok (.istore 9, 2) := by decide +kernel
theorem dL_isSound_150 : decode cL_isSound 150 = .ok (.iconst 0, 1) := by decide +kernel
theorem dL_isSound_151 : decode cL_isSound 151 = .ok (.istore 10, 2) := by decide +kernel
theorem dL_isSound_153 : decode cL_isSound 153 = .ok (.iload 10, 2) := by decide +kernel
theorem dL_isSound_155 : decode cL_isSound 155 = .ok (.aload_n 0, 1) := by decide +kernel
theorem dL_isSound_156 : decode cL_isSound 156 = .ok (.iconst 2, 1) := by decide +kernel
theorem dL_isSound_157 : decode cL_isSound 157 = .ok (.invokevirtual 12, 3) := by decide +kernel
theorem dL_isSound_160 : decode cL_isSound 160 = .ok (.if_icmp .ge 134, 3) := by decide +kernel
theorem dL_isSound_163 : decode cL_isSound 163 = .ok (.iload 6, 2) := by decide +kernel
theorem dL_isSound_165 : decode cL_isSound 165 = .ok (.aload_n 0, 1) := by decide +kernel
theorem dL_isSound_166 : decode cL_isSound 166 = .ok (.iload 10, 2) := by decide +kernel
theorem dL_isSound_168 : decode cL_isSound 168 = .ok (.iconst 0, 1) := by decide +kernel
theorem dL_isSound_169 : decode cL_isSound 169 = .ok (.invokevirtual 22, 3) := by decide +kernel
theorem dL_isSound_172 : decode cL_isSound 172 = .ok (.iadd, 1) := by decide +kernel
theorem dL_isSound_173 : decode cL_isSound 173 = .ok (.istore 6, 2) := by decide +kernel
theorem dL_isSound_175 : decode cL_isSound 175 = .ok (.iload 7, 2) := by decide +kernel
theorem dL_isSound_177 : decode cL_isSound 177 = .ok (.aload_n 0, 1) := by decide +kernel
theorem dL_isSound_178 : decode cL_isSound 178 = .ok (.iload 10, 2) := by decide +kernel
theorem dL_isSound_180 : decode cL_isSound 180 = .ok (.iconst 5, 1) := by decide +kernel
theorem dL_isSound_181 : decode cL_isSound 181 = .ok (.invokevirtual 22, 3) := by decide +kernel
theorem dL_isSound_184 : decode cL_isSound 184 = .ok (.iadd, 1) := by decide +kernel
theorem dL_isSound_185 : decode cL_isSound 185 = .ok (.istore 7, 2) := by decide +kernel
theorem dL_isSound_187 : decode cL_isSound 187 = .ok (.iload 8, 2) := by decide +kernel
theorem dL_isSound_189 : decode cL_isSound 189 = .ok (.aload_n 0, 1) := by decide +kernel
theorem dL_isSound_190 : decode cL_isSound 190 = .ok (.iload 10, 2) := by decide +kernel
theorem dL_isSound_192 : decode cL_isSound 192 = .ok (.bipush 6, 2) := by decide +kernel
theorem dL_isSound_194 : decode cL_isSound 194 = .ok (.invokevirtual 22, 3) := by decide +kernel
theorem dL_isSound_197 : decode cL_isSound 197 = .ok (.iadd, 1) := by decide +kernel
theorem dL_isSound_198 : decode cL_isSound 198 = .ok (.istore 8, 2) := by decide +kernel
theorem dL_isSound_200 : decode cL_isSound 200 = .ok (.iconst 0, 1) := by decide +kernel
theorem dL_isSound_201 : decode cL_isSound 201 = .ok (.istore 11, 2) := by decide +kernel
theorem dL_isSound_203 : decode cL_isSound 203 = .ok (.iload 11, 2) := by decide +kernel
theorem dL_isSound_205 : decode cL_isSound 205 = .ok (.iconst 4, 1) := by decide +kernel
theorem dL_isSound_206 : decode cL_isSound 206 = .ok (.if_icmp .ge 82, 3) := by decide +kernel
theorem dL_isSound_209 : decode cL_isSound 209 = .ok (.iconst 0, 1) := by decide +kernel
theorem dL_isSound_210 : decode cL_isSound 210 = .ok (.istore 12, 2) := by decide +kernel
theorem dL_isSound_212 : decode cL_isSound 212 = .ok (.iconst 0, 1) := by decide +kernel
theorem dL_isSound_213 : decode cL_isSound 213 = .ok (.istore 13, 2) := by decide +kernel
theorem dL_isSound_215 : decode cL_isSound 215 = .ok (.iload 13, 2) := by decide +kernel
theorem dL_isSound_217 : decode cL_isSound 217 = .ok (.aload_n 0, 1) := by decide +kernel
theorem dL_isSound_218 : decode cL_isSound 218 = .ok (.iconst 3, 1) := by decide +kernel
theorem dL_isSound_219 : decode cL_isSound 219 = .ok (.invokevirtual 12, 3) := by decide +kernel
theorem dL_isSound_222 : decode cL_isSound 222 = .ok (.if_icmp .ge 43, 3) := by decide +kernel
theorem dL_isSound_225 : decode cL_isSound 225 = .ok (.iload 12, 2) := by decide +kernel
theorem dL_isSound_227 : decode cL_isSound 227 = .ok (.aload_n 0, 1) := by decide +kernel
theorem dL_isSound_228 : decode cL_isSound 228 = .ok (.iload 13, 2) := by decide +kernel
theorem dL_isSound_230 : decode cL_isSound 230 = .ok (.iconst 0, 1) := by decide +kernel
theorem dL_isSound_231 : decode cL_isSound 231 = .ok (.invokevirtual 25, 3) := by decide +kernel
theorem dL_isSound_234 : decode cL_isSound 234 = .ok (.iload 10, 2) := by decide +kernel
theorem dL_isSound_236 : decode cL_isSound 236 = .ok (.if_icmp .ne 19, 3) := by decide +kernel
theorem dL_isSound_239 : decode cL_isSound 239 = .ok (.aload_n 0, 1) := by decide +kernel
theorem dL_isSound_240 : decode cL_isSound 240 = .ok (.iload 13, 2) := by decide +kernel
theorem dL_isSound_242 : decode cL_isSound 242 = .ok (.iconst 5, 1) := by decide +kernel
theorem dL_isSound_243 : decode cL_isSound 243 = .ok (.invokevirtual 25, 3) := by decide +kernel
theorem dL_isSound_246 : decode cL_isSound 246 = .ok (.iload 11, 2) := by decide +kernel
theorem dL_isSound_248 : decode cL_isSound 248 = .ok (.if_icmp .ne 7, 3) := by decide +kernel
theorem dL_isSound_251 : decode cL_isSound 251 = .ok (.iconst 1, 1) := by decide +kernel
theorem dL_isSound_252 : decode cL_isSound 252 = .ok (.goto 4, 3) := by decide +kernel
theorem dL_isSound_255 : decode cL_isSound 255 = .ok (.iconst 0, 1) := by decide +kernel
theorem dL_isSound_256 : decode cL_isSound 256 = .ok (.iadd, 1) := by decide +kernel
theorem dL_isSound_257 : decode cL_isSound 257 = .ok (.istore 12, 2) := by decide +kernel
theorem dL_isSound_259 : decode cL_isSound 259 = .ok (.iinc 13 1, 3) := by decide +kernel
theorem dL_isSound_262 : decode cL_isSound 262 = .ok (.goto (-47), 3) := by decide +kernel
theorem dL_isSound_265 : decode cL_isSound 265 = .ok (.aload_n 0, 1) := by decide +kernel
theorem dL_isSound_266 : decode cL_isSound 266 = .ok (.iload 10, 2) := by decide +kernel
theorem dL_isSound_268 : decode cL_isSound 268 = .ok (.iconst 1, 1) := by decide +kernel
theorem dL_isSound_269 : decode cL_isSound 269 = .ok (.iload 11, 2) := by decide +kernel
theorem dL_isSound_271 : decode cL_isSound 271 = .ok (.iadd, 1) := by decide +kernel
theorem dL_isSound_272 : decode cL_isSound 272 = .ok (.invokevirtual 22, 3) := by decide +kernel
theorem dL_isSound_275 : decode cL_isSound 275 = .ok (.iload 12, 2) := by decide +kernel
theorem dL_isSound_277 : decode cL_isSound 277 = .ok (.if_icmp .eq 5, 3) := by decide +kernel
theorem dL_isSound_280 : decode cL_isSound 280 = .ok (.iconst 0, 1) := by decide +kernel
theorem dL_isSound_281 : decode cL_isSound 281 = .ok (.ireturn, 1) := by decide +kernel
theorem dL_isSound_282 : decode cL_isSound 282 = .ok (.iinc 11 1, 3) := by decide +kernel
theorem dL_isSound_285 : decode cL_isSound 285 = .ok (.goto (-82), 3) := by decide +kernel
theorem dL_isSound_288 : decode cL_isSound 288 = .ok (.iinc 10 1, 3) := by decide +kernel
theorem dL_isSound_291 : decode cL_isSound 291 = .ok (.goto (-138), 3) := by decide +kernel
theorem dL_isSound_294 : decode cL_isSound 294 = .ok (.iconst 0, 1) := by decide +kernel
theorem dL_isSound_295 : decode cL_isSound 295 = .ok (.istore 10, 2) := by decide +kernel
theorem dL_isSound_297 : decode cL_isSound 297 = .ok (.iload 10, 2) := by decide +kernel
theorem dL_isSound_299 : decode cL_isSound 299 = .ok (.aload_n 0, 1) := by decide +kernel
theorem dL_isSound_300 : decode cL_isSound 300 = .ok (.iconst 3, 1) := by decide +kernel
theorem dL_isSound_301 : decode cL_isSound 301 = .ok (.invokevirtual 12, 3) := by decide +kernel
theorem dL_isSound_304 : decode cL_isSound 304 = .ok (.if_icmp .ge 119, 3) := by decide +kernel
theorem dL_isSound_307 : decode cL_isSound 307 = .ok (.aload_n 0, 1) := by decide +kernel
theorem dL_isSound_308 : decode cL_isSound 308 = .ok (.iload 10, 2) := by decide +kernel
theorem dL_isSound_310 : decode cL_isSound 310 = .ok (.iconst 5, 1) := by decide +kernel
theorem dL_isSound_311 : decode cL_isSound 311 = .ok (.invokevirtual 25, 3) := by decide +kernel
theorem dL_isSound_314 : decode cL_isSound 314 = .ok (.ifCond .ne 7, 3) := by decide +kernel
theorem dL_isSound_317 : decode cL_isSound 317 = .ok (.iconst 1, 1) := by decide +kernel
theorem dL_isSound_318 : decode cL_isSound 318 = .ok (.goto 4, 3) := by decide +kernel
theorem dL_isSound_321 : decode cL_isSound 321 = .ok (.iconst 0, 1) := by decide +kernel
theorem dL_isSound_322 : decode cL_isSound 322 = .ok (.istore 11, 2) := by decide +kernel
theorem dL_isSound_324 : decode cL_isSound 324 = .ok (.iload 9, 2) := by decide +kernel
theorem dL_isSound_326 : decode cL_isSound 326 = .ok (.aload_n 0, 1) := by decide +kernel
theorem dL_isSound_327 : decode cL_isSound 327 = .ok (.iload 10, 2) := by decide +kernel
theorem dL_isSound_329 : decode cL_isSound 329 = .ok (.bipush 7, 2) := by decide +kernel
theorem dL_isSound_331 : decode cL_isSound 331 = .ok (.invokevirtual 25, 3) := by decide +kernel
theorem dL_isSound_334 : decode cL_isSound 334 = .ok (.iadd, 1) := by decide +kernel
theorem dL_isSound_335 : decode cL_isSound 335 = .ok (.istore 9, 2) := by decide +kernel
theorem dL_isSound_337 : decode cL_isSound 337 = .ok (.iload 11, 2) := by decide +kernel
theorem dL_isSound_339 : decode cL_isSound 339 = .ok (.ifCond .eq 14, 3) := by decide +kernel
theorem dL_isSound_342 : decode cL_isSound 342 = .ok (.aload_n 0, 1) := by decide +kernel
theorem dL_isSound_343 : decode cL_isSound 343 = .ok (.iload 10, 2) := by decide +kernel
theorem dL_isSound_345 : decode cL_isSound 345 = .ok (.iconst 2, 1) := by decide +kernel
theorem dL_isSound_346 : decode cL_isSound 346 = .ok (.invokevirtual 25, 3) := by decide +kernel
theorem dL_isSound_349 : decode cL_isSound 349 = .ok (.iload_n 2, 1) := by decide +kernel
theorem dL_isSound_350 : decode cL_isSound 350 = .ok (.if_icmp .lt 65, 3) := by decide +kernel
theorem dL_isSound_353 : decode cL_isSound 353 = .ok (.iload 11, 2) := by decide +kernel
theorem dL_isSound_355 : decode cL_isSound 355 = .ok (.aload_n 0, 1) := by decide +kernel
theorem dL_isSound_356 : decode cL_isSound 356 = .ok (.aload_n 0, 1) := by decide +kernel
theorem dL_isSound_357 : decode cL_isSound 357 = .ok (.iload 10, 2) := by decide +kernel
theorem dL_isSound_359 : decode cL_isSound 359 = .ok (.iconst 1, 1) := by decide +kernel
theorem dL_isSound_360 : decode cL_isSound 360 = .ok (.invokevirtual 25, 3) := by decide +kernel
theorem dL_isSound_363 : decode cL_isSound 363 = .ok (.aload_n 0, 1) := by decide +kernel
theorem dL_isSound_364 : decode cL_isSound 364 = .ok (.iload 10, 2) := by decide +kernel
theorem dL_isSound_366 : decode cL_isSound 366 = .ok (.iconst 2, 1) := by decide +kernel
theorem dL_isSound_367 : decode cL_isSound 367 = .ok (.invokevirtual 25, 3) := by decide +kernel
theorem dL_isSound_370 : decode cL_isSound 370 = .ok (.invokevirtual 37, 3) := by decide +kernel
theorem dL_isSound_373 : decode cL_isSound 373 = .ok (.iload 10, 2) := by decide +kernel
theorem dL_isSound_375 : decode cL_isSound 375 = .ok (.if_icmp .ne 7, 3) := by decide +kernel
theorem dL_isSound_378 : decode cL_isSound 378 = .ok (.iconst 1, 1) := by decide +kernel
theorem dL_isSound_379 : decode cL_isSound 379 = .ok (.goto 4, 3) := by decide +kernel
theorem dL_isSound_382 : decode cL_isSound 382 = .ok (.iconst 0, 1) := by decide +kernel
theorem dL_isSound_383 : decode cL_isSound 383 = .ok (.if_icmp .ne 32, 3) := by decide +kernel
theorem dL_isSound_386 : decode cL_isSound 386 = .ok (.aload_n 0, 1) := by decide +kernel
theorem dL_isSound_387 : decode cL_isSound 387 = .ok (.iload 10, 2) := by decide +kernel
theorem dL_isSound_389 : decode cL_isSound 389 = .ok (.bipush 8, 2) := by decide +kernel
theorem dL_isSound_391 : decode cL_isSound 391 = .ok (.invokevirtual 25, 3) := by decide +kernel
theorem dL_isSound_394 : decode cL_isSound 394 = .ok (.aload_n 0, 1) := by decide +kernel
theorem dL_isSound_395 : decode cL_isSound 395 = .ok (.aload_n 0, 1) := by decide +kernel
theorem dL_isSound_396 : decode cL_isSound 396 = .ok (.iload 10, 2) := by decide +kernel
theorem dL_isSound_398 : decode cL_isSound 398 = .ok (.iconst 3, 1) := by decide +kernel
theorem dL_isSound_399 : decode cL_isSound 399 = .ok (.invokevirtual 25, 3) := by decide +kernel
theorem dL_isSound_402 : decode cL_isSound 402 = .ok (.aload_n 0, 1) := by decide +kernel
theorem dL_isSound_403 : decode cL_isSound 403 = .ok (.iload 10, 2) := by decide +kernel
theorem dL_isSound_405 : decode cL_isSound 405 = .ok (.iconst 4, 1) := by decide +kernel
theorem dL_isSound_406 : decode cL_isSound 406 = .ok (.invokevirtual 25, 3) := by decide +kernel
theorem dL_isSound_409 : decode cL_isSound 409 = .ok (.invokevirtual 40, 3) := by decide +kernel
theorem dL_isSound_412 : decode cL_isSound 412 = .ok (.if_icmp .eq 5, 3) := by decide +kernel
theorem dL_isSound_415 : decode cL_isSound 415 = .ok (.iconst 0, 1) := by decide +kernel
theorem dL_isSound_416 : decode cL_isSound 416 = .ok (.ireturn, 1) := by decide +kernel
theorem dL_isSound_417 : decode cL_isSound 417 = .ok (.iinc 10 1, 3) := by decide +kernel
theorem dL_isSound_420 : decode cL_isSound 420 = .ok (.goto (-123), 3) := by decide +kernel
theorem dL_isSound_423 : decode cL_isSound 423 = .ok (.iconst 0, 1) := by decide +kernel
theorem dL_isSound_424 : decode cL_isSound 424 = .ok (.istore 10, 2) := by decide +kernel
theorem dL_isSound_426 : decode cL_isSound 426 = .ok (.iload 10, 2) := by decide +kernel
theorem dL_isSound_428 : decode cL_isSound 428 = .ok (.aload_n 0, 1) := by decide +kernel
theorem dL_isSound_429 : decode cL_isSound 429 = .ok (.bipush 8, 2) := by decide +kernel
theorem dL_isSound_431 : decode cL_isSound 431 = .ok (.invokevirtual 12, 3) := by decide +kernel
theorem dL_isSound_434 : decode cL_isSound 434 = .ok (.if_icmp .ge 39, 3) := by decide +kernel
theorem dL_isSound_437 : decode cL_isSound 437 = .ok (.aload_n 0, 1) := by decide +kernel
theorem dL_isSound_438 : decode cL_isSound 438 = .ok (.iload 10, 2) := by decide +kernel
theorem dL_isSound_440 : decode cL_isSound 440 = .ok (.iconst 4, 1) := by decide +kernel
theorem dL_isSound_441 : decode cL_isSound 441 = .ok (.invokevirtual 28, 3) := by decide +kernel
theorem dL_isSound_444 : decode cL_isSound 444 = .ok (.iload_n 2, 1) := by decide +kernel
theorem dL_isSound_445 : decode cL_isSound 445 = .ok (.if_icmp .lt 20, 3) := by decide +kernel
theorem dL_isSound_448 : decode cL_isSound 448 = .ok (.aload_n 0, 1) := by decide +kernel
theorem dL_isSound_449 : decode cL_isSound 449 = .ok (.iload 10, 2) := by decide +kernel
theorem dL_isSound_451 : decode cL_isSound 451 = .ok (.iconst 1, 1) := by decide +kernel
theorem dL_isSound_452 : decode cL_isSound 452 = .ok (.invokevirtual 28, 3) := by decide +kernel
theorem dL_isSound_455 : decode cL_isSound 455 = .ok (.aload_n 0, 1) := by decide +kernel
theorem dL_isSound_456 : decode cL_isSound 456 = .ok (.iload 10, 2) := by decide +kernel
theorem dL_isSound_458 : decode cL_isSound 458 = .ok (.iconst 2, 1) := by decide +kernel
theorem dL_isSound_459 : decode cL_isSound 459 = .ok (.invokevirtual 28, 3) := by decide +kernel
theorem dL_isSound_462 : decode cL_isSound 462 = .ok (.if_icmp .ne 5, 3) := by decide +kernel
theorem dL_isSound_465 : decode cL_isSound 465 = .ok (.iconst 0, 1) := by decide +kernel
theorem dL_isSound_466 : decode cL_isSound 466 = .ok (.ireturn, 1) := by decide +kernel
theorem dL_isSound_467 : decode cL_isSound 467 = .ok (.iinc 10 1, 3) := by decide +kernel
theorem dL_isSound_470 : decode cL_isSound 470 = .ok (.goto (-44), 3) := by decide +kernel
theorem dL_isSound_473 : decode cL_isSound 473 = .ok (.iload 5, 2) := by decide +kernel
theorem dL_isSound_475 : decode cL_isSound 475 = .ok (.ifCond .ne 152, 3) := by decide +kernel
theorem dL_isSound_478 : decode cL_isSound 478 = .ok (.iload_n 3, 1) := by decide +kernel
theorem dL_isSound_479 : decode cL_isSound 479 = .ok (.aload_n 0, 1) := by decide +kernel
theorem dL_isSound_480 : decode cL_isSound 480 = .ok (.iconst 4, 1) := by decide +kernel
theorem dL_isSound_481 : decode cL_isSound 481 = .ok (.invokevirtual 12, 3) := by decide +kernel
theorem dL_isSound_484 : decode cL_isSound 484 = .ok (.if_icmp .ne 143, 3) := by decide +kernel
theorem dL_isSound_487 : decode cL_isSound 487 = .ok (.iload 4, 2) := by decide +kernel
theorem dL_isSound_489 : decode cL_isSound 489 = .ok (.aload_n 0, 1) := by decide +kernel
theorem dL_isSound_490 : decode cL_isSound 490 = .ok (.iconst 5, 1) := by decide +kernel
theorem dL_isSound_491 : decode cL_isSound 491 = .ok (.invokevirtual 12, 3) := by decide +kernel
theorem dL_isSound_494 : decode cL_isSound 494 = .ok (.if_icmp .ne 133, 3) := by decide +kernel
theorem dL_isSound_497 : decode cL_isSound 497 = .ok (.iload 6, 2) := by decide +kernel
theorem dL_isSound_499 : decode cL_isSound 499 = .ok (.aload_n 0, 1) := by decide +kernel
theorem dL_isSound_500 : decode cL_isSound 500 = .ok (.bipush 11, 2) := by decide +kernel
theorem dL_isSound_502 : decode cL_isSound 502 = .ok (.invokevirtual 12, 3) := by decide +kernel
theorem dL_isSound_505 : decode cL_isSound 505 = .ok (.if_icmp .ne 122, 3) := by decide +kernel
theorem dL_isSound_508 : decode cL_isSound 508 = .ok (.iload 7, 2) := by decide +kernel
theorem dL_isSound_510 : decode cL_isSound 510 = .ok (.aload_n 0, 1) := by decide +kernel
theorem dL_isSound_511 : decode cL_isSound 511 = .ok (.bipush 12, 2) := by decide +kernel
theorem dL_isSound_513 : decode cL_isSound 513 = .ok (.invokevirtual 12, 3) := by decide +kernel
theorem dL_isSound_516 : decode cL_isSound 516 = .ok (.if_icmp .ne 111, 3) := by decide +kernel
theorem dL_isSound_519 : decode cL_isSound 519 = .ok (.iload 8, 2) := by decide +kernel
theorem dL_isSound_521 : decode cL_isSound 521 = .ok (.aload_n 0, 1) := by decide +kernel
theorem dL_isSound_522 : decode cL_isSound 522 = .ok (.bipush 8, 2) := by decide +kernel
theorem dL_isSound_524 : decode cL_isSound 524 = .ok (.invokevirtual 12, 3) := by decide +kernel
theorem dL_isSound_527 : decode cL_isSound 527 = .ok (.if_icmp .ne 100, 3) := by decide +kernel
theorem dL_isSound_530 : decode cL_isSound 530 = .ok (.iload 9, 2) := by decide +kernel
theorem dL_isSound_532 : decode cL_isSound 532 = .ok (.aload_n 0, 1) := by decide +kernel
theorem dL_isSound_533 : decode cL_isSound 533 = .ok (.bipush 12, 2) := by decide +kernel
theorem dL_isSound_535 : decode cL_isSound 535 = .ok (.invokevirtual 12, 3) := by decide +kernel
theorem dL_isSound_538 : decode cL_isSound 538 = .ok (.aload_n 0, 1) := by decide +kernel
theorem dL_isSound_539 : decode cL_isSound 539 = .ok (.bipush 13, 2) := by decide +kernel
theorem dL_isSound_541 : decode cL_isSound 541 = .ok (.invokevirtual 12, 3) := by decide +kernel
theorem dL_isSound_544 : decode cL_isSound 544 = .ok (.iadd, 1) := by decide +kernel
theorem dL_isSound_545 : decode cL_isSound 545 = .ok (.if_icmp .ne 82, 3) := by decide +kernel
theorem dL_isSound_548 : decode cL_isSound 548 = .ok (.aload_n 0, 1) := by decide +kernel
theorem dL_isSound_549 : decode cL_isSound 549 = .ok (.bipush 14, 2) := by decide +kernel
theorem dL_isSound_551 : decode cL_isSound 551 = .ok (.invokevirtual 12, 3) := by decide +kernel
theorem dL_isSound_554 : decode cL_isSound 554 = .ok (.iload_n 1, 1) := by decide +kernel
theorem dL_isSound_555 : decode cL_isSound 555 = .ok (.if_icmp .ne 72, 3) := by decide +kernel
theorem dL_isSound_558 : decode cL_isSound 558 = .ok (.aload_n 0, 1) := by decide +kernel
theorem dL_isSound_559 : decode cL_isSound 559 = .ok (.iconst 4, 1) := by decide +kernel
theorem dL_isSound_560 : decode cL_isSound 560 = .ok (.invokevirtual 12, 3) := by decide +kernel
theorem dL_isSound_563 : decode cL_isSound 563 = .ok (.aload_n 0, 1) := by decide +kernel
theorem dL_isSound_564 : decode cL_isSound 564 = .ok (.iconst 5, 1) := by decide +kernel
theorem dL_isSound_565 : decode cL_isSound 565 = .ok (.invokevirtual 12, 3) := by decide +kernel
theorem dL_isSound_568 : decode cL_isSound 568 = .ok (.iadd, 1) := by decide +kernel
theorem dL_isSound_569 : decode cL_isSound 569 = .ok (.aload_n 0, 1) := by decide +kernel
theorem dL_isSound_570 : decode cL_isSound 570 = .ok (.bipush 6, 2) := by decide +kernel
theorem dL_isSound_572 : decode cL_isSound 572 = .ok (.invokevirtual 12, 3) := by decide +kernel
theorem dL_isSound_575 : decode cL_isSound 575 = .ok (.iadd, 1) := by decide +kernel
theorem dL_isSound_576 : decode cL_isSound 576 = .ok (.aload_n 0, 1) := by decide +kernel
theorem dL_isSound_577 : decode cL_isSound 577 = .ok (.bipush 7, 2) := by decide +kernel
theorem dL_isSound_579 : decode cL_isSound 579 = .ok (.invokevirtual 12, 3) := by decide +kernel
theorem dL_isSound_582 : decode cL_isSound 582 = .ok (.iadd, 1) := by decide +kernel
theorem dL_isSound_583 : decode cL_isSound 583 = .ok (.aload_n 0, 1) := by decide +kernel
theorem dL_isSound_584 : decode cL_isSound 584 = .ok (.iconst 3, 1) := by decide +kernel
theorem dL_isSound_585 : decode cL_isSound 585 = .ok (.invokevirtual 12, 3) := by decide +kernel
theorem dL_isSound_588 : decode cL_isSound 588 = .ok (.if_icmp .ne 39, 3) := by decide +kernel
theorem dL_isSound_591 : decode cL_isSound 591 = .ok (.iload 6, 2) := by decide +kernel
theorem dL_isSound_593 : decode cL_isSound 593 = .ok (.bipush 30, 2) := by decide +kernel
theorem dL_isSound_595 : decode cL_isSound 595 = .ok (.iload 4, 2) := by decide +kernel
theorem dL_isSound_597 : decode cL_isSound 597 = .ok (.imul, 1) := by decide +kernel
theorem dL_isSound_598 : decode cL_isSound 598 = .ok (.bipush 8, 2) := by decide +kernel
theorem dL_isSound_600 : decode cL_isSound 600 = .ok (.iload 7, 2) := by decide +kernel
theorem dL_isSound_602 : decode cL_isSound 602 = .ok (.imul, 1) := by decide +kernel
theorem dL_isSound_603 : decode cL_isSound 603 = .ok (.iadd, 1) := by decide +kernel
theorem dL_isSound_604 : decode cL_isSound 604 = .ok (.iconst 5, 1) := by decide +kernel
theorem dL_isSound_605 : decode cL_isSound 605 = .ok (.aload_n 0, 1) := by decide +kernel
theorem dL_isSound_606 : decode cL_isSound 606 = .ok (.bipush 9, 2) := by decide +kernel
theorem dL_isSound_608 : decode cL_isSound 608 = .ok (.invokevirtual 12, 3) := by decide +kernel
theorem dL_isSound_611 : decode cL_isSound 611 = .ok (.aload_n 0, 1) := by decide +kernel
theorem dL_isSound_612 : decode cL_isSound 612 = .ok (.bipush 10, 2) := by decide +kernel
theorem dL_isSound_614 : decode cL_isSound 614 = .ok (.invokevirtual 12, 3) := by decide +kernel
theorem dL_isSound_617 : decode cL_isSound 617 = .ok (.iadd, 1) := by decide +kernel
theorem dL_isSound_618 : decode cL_isSound 618 = .ok (.imul, 1) := by decide +kernel
theorem dL_isSound_619 : decode cL_isSound 619 = .ok (.iadd, 1) := by decide +kernel
theorem dL_isSound_620 : decode cL_isSound 620 = .ok (.if_icmp .lt 7, 3) := by decide +kernel
theorem dL_isSound_623 : decode cL_isSound 623 = .ok (.iconst 1, 1) := by decide +kernel
theorem dL_isSound_624 : decode cL_isSound 624 = .ok (.goto 4, 3) := by decide +kernel
theorem dL_isSound_627 : decode cL_isSound 627 = .ok (.iconst 0, 1) := by decide +kernel
theorem dL_isSound_628 : decode cL_isSound 628 = .ok (.ireturn, 1) := by decide +kernel
theorem dL_isForetold_0 : decode cL_isForetold 0 = .ok (.aload_n 0, 1) := by decide +kernel
theorem dL_isForetold_1 : decode cL_isForetold 1 = .ok (.invokestatic 43, 3) := by decide +kernel
theorem dL_isForetold_4 : decode cL_isForetold 4 = .ok (.lstore_n 2, 1) := by decide +kernel
theorem dL_isForetold_5 : decode cL_isForetold 5 = .ok (.aload_n 0, 1) := by decide +kernel
theorem dL_isForetold_6 : decode cL_isForetold 6 = .ok (.iconst 0, 1) := by decide +kernel
theorem dL_isForetold_7 : decode cL_isForetold 7 = .ok (.invokevirtual 12, 3) := by decide +kernel
theorem dL_isForetold_10 : decode cL_isForetold 10 = .ok (.istore 4, 2) := by decide +kernel
theorem dL_isForetold_12 : decode cL_isForetold 12 = .ok (.aload_n 0, 1) := by decide +kernel
theorem dL_isForetold_13 : decode cL_isForetold 13 = .ok (.iconst 3, 1) := by decide +kernel
theorem dL_isForetold_14 : decode cL_isForetold 14 = .ok (.invokevirtual 12, 3) := by decide +kernel
theorem dL_isForetold_17 : decode cL_isForetold 17 = .ok (.ifCond .le 193, 3) := by decide +kernel
theorem dL_isForetold_20 : decode cL_isForetold 20 = .ok (.iload_n 1, 1) := by decide +kernel
theorem dL_isForetold_21 : decode cL_isForetold 21 = .ok (.aload_n 0, 1) := by decide +kernel
theorem dL_isForetold_22 : decode cL_isForetold 22 = .ok (.iconst 3, 1) := by decide +kernel
theorem dL_isForetold_23 : decode cL_isForetold 23 = .ok (.invokevirtual 12, 3) := by decide +kernel
theorem dL_isForetold_26 : decode cL_isForetold 26 = .ok (.invokestatic 49, 3) := by decide +kernel
theorem dL_isForetold_29 : decode cL_isForetold 29 = .ok (.istore 5, 2) := by decide +kernel
theorem dL_isForetold_31 : decode cL_isForetold 31 = .ok (.aload_n 0, 1) := by decide +kernel
theorem dL_isForetold_32 : decode cL_isForetold 32 = .ok (.iload 5, 2) := by decide +kernel
theorem dL_isForetold_34 : decode cL_isForetold 34 = .ok (.invokevirtual 52, 3) := by decide +kernel
theorem dL_isForetold_37 : decode cL_isForetold 37 = .ok (.istore 6, 2) := by decide +kernel
theorem dL_isForetold_39 : decode cL_isForetold 39 = .ok (.aload_n 0, 1) := by decide +kernel
theorem dL_isForetold_40 : decode cL_isForetold 40 = .ok (.iload 5, 2) := by decide +kernel
theorem dL_isForetold_42 : decode cL_isForetold 42 = .ok (.iconst 2, 1) := by decide +kernel
theorem dL_isForetold_43 : decode cL_isForetold 43 = .ok (.invokevirtual 25, 3) := by decide +kernel
theorem dL_isForetold_46 : decode cL_isForetold 46 = .ok (.istore 7, 2) := by decide +kernel
theorem dL_isForetold_48 : decode cL_isForetold 48 = .ok (.aload_n 0, 1) := by decide +kernel
theorem dL_isForetold_49 : decode cL_isForetold 49 = .ok (.invokestatic 43, 3) := by decide +kernel
theorem dL_isForetold_52 : decode cL_isForetold 52 = .ok (.lload_n 2, 1) := by decide +kernel
theorem dL_isForetold_53 : decode cL_isForetold 53 = .ok (.lcmp, 1) := by decide +kernel
theorem dL_isForetold_54 : decode cL_isForetold 54 = .ok (.ifCond .ne 33, 3) := by decide +kernel
theorem dL_isForetold_57 : decode cL_isForetold 57 = .ok (.iload 6, 2) := by decide +kernel
theorem dL_isForetold_59 : decode cL_isForetold 59 = .ok (.bipush (-4), 2) := by decide +kernel
theorem dL_isForetold_61 : decode cL_isForetold 61 = .ok (.if_icmp .ne 7, 3) := by decide +kernel
theorem dL_isForetold_64 : decode cL_isForetold 64 = .ok (.iconst 1, 1) := by decide +kernel
theorem dL_isForetold_65 : decode cL_isForetold 65 = .ok (.goto 4, 3) := by decide +kernel
theorem dL_isForetold_68 : decode cL_isForetold 68 = .ok (.iconst 0, 1) := by decide +kernel
theorem dL_isForetold_69 : decode cL_isForetold 69 = .ok (.aload_n 0, 1) := by decide +kernel
theorem dL_isForetold_70 : decode cL_isForetold 70 = .ok (.iload 5, 2) := by decide +kernel
theorem dL_isForetold_72 : decode cL_isForetold 72 = .ok (.iconst 5, 1) := by decide +kernel
theorem dL_isForetold_73 : decode cL_isForetold 73 = .ok (.invokevirtual 25, 3) := by decide +kernel
theorem dL_isForetold_76 : decode cL_isForetold 76 = .ok (.ifCond .eq 7, 3) := by decide +kernel
theorem dL_isForetold_79 : decode cL_isForetold 79 = .ok (.iconst 1, 1) := by decide +kernel
theorem dL_isForetold_80 : decode cL_isForetold 80 = .ok (.goto 4, 3) := by decide +kernel
theorem dL_isForetold_83 : decode cL_isForetold 83 = .ok (.iconst 0, 1) := by decide +kernel
theorem dL_isForetold_84 : decode cL_isForetold 84 = .ok (.if_icmp .eq 5, 3) := by decide +kernel
theorem dL_isForetold_87 : decode cL_isForetold 87 = .ok (.iconst 0, 1) := by decide +kernel
theorem dL_isForetold_88 : decode cL_isForetold 88 = .ok (.ireturn, 1) := by decide +kernel
theorem dL_isForetold_89 : decode cL_isForetold 89 = .ok (.iload 6, 2) := by decide +kernel
theorem dL_isForetold_91 : decode cL_isForetold 91 = .ok (.ifCond .lt 119, 3) := by decide +kernel
theorem dL_isForetold_94 : decode cL_isForetold 94 = .ok (.iload 7, 2) := by decide +kernel
theorem dL_isForetold_96 : decode cL_isForetold 96 = .ok (.iload 4, 2) := by decide +kernel
theorem dL_isForetold_98 : decode cL_isForetold 98 = .ok (.isub, 1) := by decide +kernel
theorem dL_isForetold_99 : decode cL_isForetold 99 = .ok (.bipush 20, 2) := by decide +kernel
theorem dL_isForetold_101 : decode cL_isForetold 101 = .ok (.if_icmp .ge 109, 3) := by decide +kernel
theorem dL_isForetold_104 : decode cL_isForetold 104 = .ok (.iload 7, 2) := by decide +kernel
theorem dL_isForetold_106 : decode cL_isForetold 106 = .ok (.sipush 199, 3) := by decide +kernel
theorem dL_isForetold_109 : decode cL_isForetold 109 = .ok (.if_icmp .ge 101, 3) := by decide +kernel
theorem dL_isForetold_112 : decode cL_isForetold 112 = .ok (.aload_n 0, 1) := by decide +kernel
theorem dL_isForetold_113 : decode cL_isForetold 113 = .ok (.iload 5, 2) := by decide +kernel
theorem dL_isForetold_115 : decode cL_isForetold 115 = .ok (.bipush 7, 2) := by decide +kernel
theorem dL_isForetold_117 : decode cL_isForetold 117 = .ok (.invokevirtual 25, 3) := by decide +kernel
theorem dL_isForetold_120 : decode cL_isForetold 120 = .ok (.istore 8, 2) := by decide +kernel
theorem dL_isForetold_122 : decode cL_isForetold 122 = .ok (.aload_n 0, 1) := by decide +kernel
theorem dL_isForetold_123 : decode cL_isForetold 123 = .ok (.iload 7, 2) := by decide +kernel
theorem dL_isForetold_125 : decode cL_isForetold 125 = .ok (.iload 4, 2) := by decide +kernel
theorem dL_isForetold_127 : decode cL_isForetold 127 = .ok (.isub, 1) := by decide +kernel
theorem dL_isForetold_128 : decode cL_isForetold 128 = .ok (.iconst 1, 1) := by decide +kernel
theorem dL_isForetold_129 : decode cL_isForetold 129 = .ok (.iadd, 1) := by decide +kernel
theorem dL_isForetold_130 : decode cL_isForetold 130 = .ok (.invokevirtual 55, 3) := by decide +kernel
theorem dL_isForetold_133 : decode cL_isForetold 133 = .ok (.ifCond .lt 75, 3) := by decide +kernel
theorem dL_isForetold_136 : decode cL_isForetold 136 = .ok (.aload_n 0, 1) := by decide +kernel
theorem dL_isForetold_137 : decode cL_isForetold 137 = .ok (.iload 5, 2) := by decide +kernel
theorem dL_isForetold_139 : decode cL_isForetold 139 = .ok (.iconst 5, 1) := by decide +kernel
theorem dL_isForetold_140 : decode cL_isForetold 140 = .ok (.invokevirtual 25, 3) := by decide +kernel
theorem dL_isForetold_143 : decode cL_isForetold 143 = .ok (.iconst 1, 1) := by decide +kernel
theorem dL_isForetold_144 : decode cL_isForetold 144 = .ok (.if_icmp .ne 7, 3) := by decide +kernel
theorem dL_isForetold_147 : decode cL_isForetold 147 = .ok (.iconst 1, 1) := by decide +kernel
theorem dL_isForetold_148 : decode cL_isForetold 148 = .ok (.goto 4, 3) := by decide +kernel
theorem dL_isForetold_151 : decode cL_isForetold 151 = .ok (.iconst 0, 1) := by decide +kernel
theorem dL_isForetold_152 : decode cL_isForetold 152 = .ok (.iload 6, 2) := by decide +kernel
theorem dL_isForetold_154 : decode cL_isForetold 154 = .ok (.ifCond .ne 7, 3) := by decide +kernel
theorem dL_isForetold_157 : decode cL_isForetold 157 = .ok (.iconst 1, 1) := by decide +kernel
theorem dL_isForetold_158 : decode cL_isForetold 158 = .ok (.goto 4, 3) := by decide +kernel
theorem dL_isForetold_161 : decode cL_isForetold 161 = .ok (.iconst 0, 1) := by decide +kernel
theorem dL_isForetold_162 : decode cL_isForetold 162 = .ok (.if_icmp .ne 46, 3) := by decide +kernel
theorem dL_isForetold_165 : decode cL_isForetold 165 = .ok (.aload_n 0, 1) := by decide +kernel
theorem dL_isForetold_166 : decode cL_isForetold 166 = .ok (.iload 5, 2) := by decide +kernel
theorem dL_isForetold_168 : decode cL_isForetold 168 = .ok (.bipush 7, 2) := by decide +kernel
theorem dL_isForetold_170 : decode cL_isForetold 170 = .ok (.invokevirtual 25, 3) := by decide +kernel
theorem dL_isForetold_173 : decode cL_isForetold 173 = .ok (.iload 8, 2) := by decide +kernel
theorem dL_isForetold_175 : decode cL_isForetold 175 = .ok (.iload 6, 2) := by decide +kernel
theorem dL_isForetold_177 : decode cL_isForetold 177 = .ok (.ifCond .ne 7, 3) := by decide +kernel
theorem dL_isForetold_180 : decode cL_isForetold 180 = .ok (.iconst 0, 1) := by decide +kernel
theorem dL_isForetold_181 : decode cL_isForetold 181 = .ok (.goto 4, 3) := by decide +kernel
theorem dL_isForetold_184 : decode cL_isForetold 184 = .ok (.iconst 1, 1) := by decide +kernel
theorem dL_isForetold_185 : decode cL_isForetold 185 = .ok (.iadd, 1) := by decide +kernel
theorem dL_isForetold_186 : decode cL_isForetold 186 = .ok (.if_icmp .ne 22, 3) := by decide +kernel
theorem dL_isForetold_189 : decode cL_isForetold 189 = .ok (.aload_n 0, 1) := by decide +kernel
theorem dL_isForetold_190 : decode cL_isForetold 190 = .ok (.iload 5, 2) := by decide +kernel
theorem dL_isForetold_192 : decode cL_isForetold 192 = .ok (.iconst 2, 1) := by decide +kernel
theorem dL_isForetold_193 : decode cL_isForetold 193 = .ok (.invokevirtual 25, 3) := by decide +kernel
theorem dL_isForetold_196 : decode cL_isForetold 196 = .ok (.iload 7, 2) := by decide +kernel
theorem dL_isForetold_198 : decode cL_isForetold 198 = .ok (.if_icmp .lt 10, 3) := by decide +kernel
theorem dL_isForetold_201 : decode cL_isForetold 201 = .ok (.aload_n 0, 1) := by decide +kernel
theorem dL_isForetold_202 : decode cL_isForetold 202 = .ok (.invokevirtual 58, 3) := by decide +kernel
theorem dL_isForetold_205 : decode cL_isForetold 205 = .ok (.ifCond .ge 5, 3) := by decide +kernel
theorem dL_isForetold_208 : decode cL_isForetold 208 = .ok (.iconst 0, 1) := by decide +kernel
theorem dL_isForetold_209 : decode cL_isForetold 209 = .ok (.ireturn, 1) := by decide +kernel
theorem dL_isForetold_210 : decode cL_isForetold 210 = .ok (.iload_n 1, 1) := by decide +kernel
theorem dL_isForetold_211 : decode cL_isForetold 211 = .ok (.iconst 5, 1) := by decide +kernel
theorem dL_isForetold_212 : decode cL_isForetold 212 = .ok (.ishr, 1) := by decide +kernel
theorem dL_isForetold_213 : decode cL_isForetold 213 = .ok (.aload_n 0, 1) := by decide +kernel
theorem dL_isForetold_214 : decode cL_isForetold 214 = .ok (.iconst 1, 1) := by decide +kernel
theorem dL_isForetold_215 : decode cL_isForetold 215 = .ok (.invokevirtual 12, 3) := by decide +kernel
theorem dL_isForetold_218 : decode cL_isForetold 218 = .ok (.invokestatic 49, 3) := by decide +kernel
theorem dL_isForetold_221 : decode cL_isForetold 221 = .ok (.istore 5, 2) := by decide +kernel
theorem dL_isForetold_223 : decode cL_isForetold 223 = .ok (.iconst 2, 1) := by decide +kernel
theorem dL_isForetold_224 : decode cL_isForetold 224 = .ok (.iload_n 1, 1) := by decide +kernel
theorem dL_isForetold_225 : decode cL_isForetold 225 = .ok (.bipush 8, 2) := by decide +kernel
theorem dL_isForetold_227 : decode cL_isForetold 227 = .ok (.ishr, 1) := by decide +kernel
theorem dL_isForetold_228 : decode cL_isForetold 228 = .ok (.bipush 59, 2) := by decide +kernel
theorem dL_isForetold_230 : decode cL_isForetold 230 = .ok (.invokestatic 49, 3) := by decide +kernel
theorem dL_isForetold_233 : decode cL_isForetold 233 = .ok (.iadd, 1) := by decide +kernel
theorem dL_isForetold_234 : decode cL_isForetold 234 = .ok (.istore 6, 2) := by decide +kernel
theorem dL_isForetold_236 : decode cL_isForetold 236 = .ok (.iload_n 1, 1) := by decide +kernel
theorem dL_isForetold_237 : decode cL_isForetold 237 = .ok (.bipush 14, 2) := by decide +kernel
theorem dL_isForetold_239 : decode cL_isForetold 239 = .ok (.ishr, 1) := by decide +kernel
theorem dL_isForetold_240 : decode cL_isForetold 240 = .ok (.bipush 15, 2) := by decide +kernel
theorem dL_isForetold_242 : decode cL_isForetold 242 = .ok (.invokestatic 49, 3) := by decide +kernel
theorem dL_isForetold_245 : decode cL_isForetold 245 = .ok (.istore 7, 2) := by decide +kernel
theorem dL_isForetold_247 : decode cL_isForetold 247 = .ok (.iload 4, 2) := by decide +kernel
theorem dL_isForetold_249 : decode cL_isForetold 249 = .ok (.iload 7, 2) := by decide +kernel
theorem dL_isForetold_251 : decode cL_isForetold 251 = .ok (.iadd, 1) := by decide +kernel
theorem dL_isForetold_252 : decode cL_isForetold 252 = .ok (.sipush 199, 3) := by decide +kernel
theorem dL_isForetold_255 : decode cL_isForetold 255 = .ok (.if_icmp .ge 51, 3) := by decide +kernel
theorem dL_isForetold_258 : decode cL_isForetold 258 = .ok (.aload_n 0, 1) := by decide +kernel
theorem dL_isForetold_259 : decode cL_isForetold 259 = .ok (.iload 5, 2) := by decide +kernel
theorem dL_isForetold_261 : decode cL_isForetold 261 = .ok (.iload 6, 2) := by decide +kernel
theorem dL_isForetold_263 : decode cL_isForetold 263 = .ok (.iload 4, 2) := by decide +kernel
theorem dL_isForetold_265 : decode cL_isForetold 265 = .ok (.iload 7, 2) := by decide +kernel
theorem dL_isForetold_267 : decode cL_isForetold 267 = .ok (.iadd, 1) := by decide +kernel
theorem dL_isForetold_268 : decode cL_isForetold 268 = .ok (.invokevirtual 62, 3) := by decide +kernel
theorem dL_isForetold_271 : decode cL_isForetold 271 = .ok (.istore 8, 2) := by decide +kernel
theorem dL_isForetold_273 : decode cL_isForetold 273 = .ok (.aload_n 0, 1) := by decide +kernel
theorem dL_isForetold_274 : decode cL_isForetold 274 = .ok (.iload 7, 2) := by decide +kernel
theorem dL_isForetold_276 : decode cL_isForetold 276 = .ok (.iconst 1, 1) := by decide +kernel
theorem dL_isForetold_277 : decode cL_isForetold 277 = .ok (.iadd, 1) := by decide +kernel
theorem dL_isForetold_278 : decode cL_isForetold 278 = .ok (.invokevirtual 55, 3) := by decide +kernel
theorem dL_isForetold_281 : decode cL_isForetold 281 = .ok (.ifCond .lt 23, 3) := by decide +kernel
theorem dL_isForetold_284 : decode cL_isForetold 284 = .ok (.aload_n 0, 1) := by decide +kernel
theorem dL_isForetold_285 : decode cL_isForetold 285 = .ok (.iload 5, 2) := by decide +kernel
theorem dL_isForetold_287 : decode cL_isForetold 287 = .ok (.iload 6, 2) := by decide +kernel
theorem dL_isForetold_289 : decode cL_isForetold 289 = .ok (.invokevirtual 34, 3) := by decide +kernel
theorem dL_isForetold_292 : decode cL_isForetold 292 = .ok (.iload 8, 2) := by decide +kernel
theorem dL_isForetold_294 : decode cL_isForetold 294 = .ok (.if_icmp .ne 10, 3) := by decide +kernel
theorem dL_isForetold_297 : decode cL_isForetold 297 = .ok (.aload_n 0, 1) := by decide +kernel
theorem dL_isForetold_298 : decode cL_isForetold 298 = .ok (.invokevirtual 58, 3) := by decide +kernel
theorem dL_isForetold_301 : decode cL_isForetold 301 = .ok (.ifCond .ge 5, 3) := by decide +kernel
theorem dL_isForetold_304 : decode cL_isForetold 304 = .ok (.iconst 0, 1) := by decide +kernel
theorem dL_isForetold_305 : decode cL_isForetold 305 = .ok (.ireturn, 1) := by decide +kernel
theorem dL_isForetold_306 : decode cL_isForetold 306 = .ok (.aload_n 0, 1) := by decide +kernel
theorem dL_isForetold_307 : decode cL_isForetold 307 = .ok (.invokestatic 43, 3) := by decide +kernel
theorem dL_isForetold_310 : decode cL_isForetold 310 = .ok (.lload_n 2, 1) := by decide +kernel
theorem dL_isForetold_311 : decode cL_isForetold 311 = .ok (.lcmp, 1) := by decide +kernel
theorem dL_isForetold_312 : decode cL_isForetold 312 = .ok (.ifCond .ne 7, 3) := by decide +kernel
theorem dL_isForetold_315 : decode cL_isForetold 315 = .ok (.iconst 1, 1) := by decide +kernel
theorem dL_isForetold_316 : decode cL_isForetold 316 = .ok (.goto 4, 3) := by decide +kernel
theorem dL_isForetold_319 : decode cL_isForetold 319 = .ok (.iconst 0, 1) := by decide +kernel
theorem dL_isForetold_320 : decode cL_isForetold 320 = .ok (.ireturn, 1) := by decide +kernel
theorem dL_isFound_0 : decode cL_isFound 0 = .ok (.aload_n 0, 1) := by decide +kernel
theorem dL_isFound_1 : decode cL_isFound 1 = .ok (.invokestatic 43, 3) := by decide +kernel
theorem dL_isFound_4 : decode cL_isFound 4 = .ok (.lstore_n 2, 1) := by decide +kernel
theorem dL_isFound_5 : decode cL_isFound 5 = .ok (.aload_n 0, 1) := by decide +kernel
theorem dL_isFound_6 : decode cL_isFound 6 = .ok (.iconst 0, 1) := by decide +kernel
theorem dL_isFound_7 : decode cL_isFound 7 = .ok (.invokevirtual 12, 3) := by decide +kernel
theorem dL_isFound_10 : decode cL_isFound 10 = .ok (.istore 4, 2) := by decide +kernel
theorem dL_isFound_12 : decode cL_isFound 12 = .ok (.iload 4, 2) := by decide +kernel
theorem dL_isFound_14 : decode cL_isFound 14 = .ok (.iload_n 1, 1) := by decide +kernel
theorem dL_isFound_15 : decode cL_isFound 15 = .ok (.iload 4, 2) := by decide +kernel
theorem dL_isFound_17 : decode cL_isFound 17 = .ok (.sipush 190, 3) := by decide +kernel
theorem dL_isFound_20 : decode cL_isFound 20 = .ok (.if_icmp .le 12, 3) := by decide +kernel
theorem dL_isFound_23 : decode cL_isFound 23 = .ok (.sipush 200, 3) := by decide +kernel
theorem dL_isFound_26 : decode cL_isFound 26 = .ok (.iload 4, 2) := by decide +kernel
theorem dL_isFound_28 : decode cL_isFound 28 = .ok (.isub, 1) := by decide +kernel
theorem dL_isFound_29 : decode cL_isFound 29 = .ok (.goto 5, 3) := by decide +kernel
theorem dL_isFound_32 : decode cL_isFound 32 = .ok (.bipush 9, 2) := by decide +kernel
theorem dL_isFound_34 : decode cL_isFound 34 = .ok (.invokestatic 49, 3) := by decide +kernel
theorem dL_isFound_37 : decode cL_isFound 37 = .ok (.iadd, 1) := by decide +kernel
theorem dL_isFound_38 : decode cL_isFound 38 = .ok (.istore 5, 2) := by decide +kernel
theorem dL_isFound_40 : decode cL_isFound 40 = .ok (.iconst 1, 1) := by decide +kernel
theorem dL_isFound_41 : decode cL_isFound 41 = .ok (.iload_n 1, 1) := by decide +kernel
theorem dL_isFound_42 : decode cL_isFound 42 = .ok (.iconst 4, 1) := by decide +kernel
theorem dL_isFound_43 : decode cL_isFound 43 = .ok (.ishr, 1) := by decide +kernel
theorem dL_isFound_44 : decode cL_isFound 44 = .ok (.sipush 900, 3) := by decide +kernel
theorem dL_isFound_47 : decode cL_isFound 47 = .ok (.invokestatic 49, 3) := by decide +kernel
theorem dL_isFound_50 : decode cL_isFound 50 = .ok (.iadd, 1) := by decide +kernel
theorem dL_isFound_51 : decode cL_isFound 51 = .ok (.istore 6, 2) := by decide +kernel
theorem dL_isFound_53 : decode cL_isFound 53 = .ok (.iconst 2, 1) := by decide +kernel
theorem dL_isFound_54 : decode cL_isFound 54 = .ok (.iload_n 1, 1) := by decide +kernel
theorem dL_isFound_55 : decode cL_isFound 55 = .ok (.bipush 9, 2) := by decide +kernel
theorem dL_isFound_57 : decode cL_isFound 57 = .ok (.ishr, 1) := by decide +kernel
theorem dL_isFound_58 : decode cL_isFound 58 = .ok (.bipush 59, 2) := by decide +kernel
theorem dL_isFound_60 : decode cL_isFound 60 = .ok (.invokestatic 49, 3) := by decide +kernel
theorem dL_isFound_63 : decode cL_isFound 63 = .ok (.iadd, 1) := by decide +kernel
theorem dL_isFound_64 : decode cL_isFound 64 = .ok (.istore 7, 2) := by decide +kernel
theorem dL_isFound_66 : decode cL_isFound 66 = .ok (.aload_n 0, 1) := by decide +kernel
theorem dL_isFound_67 : decode cL_isFound 67 = .ok (.iload 5, 2) := by decide +kernel
theorem dL_isFound_69 : decode cL_isFound 69 = .ok (.iload 6, 2) := by decide +kernel
theorem dL_isFound_71 : decode cL_isFound 71 = .ok (.iload 7, 2) := by decide +kernel
theorem dL_isFound_73 : decode cL_isFound 73 = .ok (.invokevirtual 66, 3) := by decide +kernel
theorem dL_isFound_76 : decode cL_isFound 76 = .ok (.istore 8, 2) := by decide +kernel
theorem dL_isFound_78 : decode cL_isFound 78 = .ok (.iconst 0, 1) := by decide +kernel
theorem dL_isFound_79 : decode cL_isFound 79 = .ok (.istore 9, 2) := by decide +kernel
theorem dL_isFound_81 : decode cL_isFound 81 = .ok (.iload 9, 2) := by decide +kernel
theorem dL_isFound_83 : decode cL_isFound 83 = .ok (.aload_n 0, 1) := by decide +kernel
theorem dL_isFound_84 : decode cL_isFound 84 = .ok (.iconst 1, 1) := by decide +kernel
theorem dL_isFound_85 : decode cL_isFound 85 = .ok (.invokevirtual 12, 3) := by decide +kernel
theorem dL_isFound_88 : decode cL_isFound 88 = .ok (.if_icmp .ge 116, 3) := by decide +kernel
theorem dL_isFound_91 : decode cL_isFound 91 = .ok (.aload_n 0, 1) := by decide +kernel
theorem dL_isFound_92 : decode cL_isFound 92 = .ok (.iconst 0, 1) := by decide +kernel
theorem dL_isFound_93 : decode cL_isFound 93 = .ok (.iload 9, 2) := by decide +kernel
theorem dL_isFound_95 : decode cL_isFound 95 = .ok (.iload 5, 2) := by decide +kernel
theorem dL_isFound_97 : decode cL_isFound 97 = .ok (.iload 6, 2) := by decide +kernel
theorem dL_isFound_99 : decode cL_isFound 99 = .ok (.iload 7, 2) := by decide +kernel
theorem dL_isFound_101 : decode cL_isFound 101 = .ok (.invokevirtual 69, 3) := by decide +kernel
theorem dL_isFound_104 : decode cL_isFound 104 = .ok (.istore 10, 2) := by decide +kernel
theorem dL_isFound_106 : decode cL_isFound 106 = .ok (.iload 10, 2) := by decide +kernel
theorem dL_isFound_108 : decode cL_isFound 108 = .ok (.ifCond .ge 10, 3) := by decide +kernel
theorem dL_isFound_111 : decode cL_isFound 111 = .ok (.iload 10, 2) := by decide +kernel
theorem dL_isFound_113 : decode cL_isFound 113 = .ok (.bipush (-3), 2) := by decide +kernel
theorem dL_isFound_115 : decode cL_isFound 115 = .ok (.if_icmp .ne 7, 3) := by decide +kernel
theorem dL_isFound_118 : decode cL_isFound 118 = .ok (.iconst 1, 1) := by decide +kernel
theorem dL_isFound_119 : decode cL_isFound 119 = .ok (.goto 4, 3) := by decide +kernel
theorem dL_isFound_122 : decode cL_isFound 122 = .ok (.iconst 0, 1) := by decide +kernel
theorem dL_isFound_123 : decode cL_isFound 123 = .ok (.istore 11, 2) := by decide +kernel
theorem dL_isFound_125 : decode cL_isFound 125 = .ok (.iload 10, 2) := by decide +kernel
theorem dL_isFound_127 : decode cL_isFound 127 = .ok (.ifCond .lt 40, 3) := by decide +kernel
theorem dL_isFound_130 : decode cL_isFound 130 = .ok (.aload_n 0, 1) := by decide +kernel
theorem dL_isFound_131 : decode cL_isFound 131 = .ok (.iload 9, 2) := by decide +kernel
theorem dL_isFound_133 : decode cL_isFound 133 = .ok (.iload 5, 2) := by decide +kernel
theorem dL_isFound_135 : decode cL_isFound 135 = .ok (.invokevirtual 37, 3) := by decide +kernel
theorem dL_isFound_138 : decode cL_isFound 138 = .ok (.iload 10, 2) := by decide +kernel
theorem dL_isFound_140 : decode cL_isFound 140 = .ok (.if_icmp .ne 56, 3) := by decide +kernel
theorem dL_isFound_143 : decode cL_isFound 143 = .ok (.aload_n 0, 1) := by decide +kernel
theorem dL_isFound_144 : decode cL_isFound 144 = .ok (.iload 10, 2) := by decide +kernel
theorem dL_isFound_146 : decode cL_isFound 146 = .ok (.bipush 6, 2) := by decide +kernel
theorem dL_isFound_148 : decode cL_isFound 148 = .ok (.invokevirtual 25, 3) := by decide +kernel
theorem dL_isFound_151 : decode cL_isFound 151 = .ok (.aload_n 0, 1) := by decide +kernel
theorem dL_isFound_152 : decode cL_isFound 152 = .ok (.iload 5, 2) := by decide +kernel
theorem dL_isFound_154 : decode cL_isFound 154 = .ok (.invokevirtual 31, 3) := by decide +kernel
theorem dL_isFound_157 : decode cL_isFound 157 = .ok (.if_icmp .ne 39, 3) := by decide +kernel
theorem dL_isFound_160 : decode cL_isFound 160 = .ok (.aload_n 0, 1) := by decide +kernel
theorem dL_isFound_161 : decode cL_isFound 161 = .ok (.invokevirtual 58, 3) := by decide +kernel
theorem dL_isFound_164 : decode cL_isFound 164 = .ok (.ifCond .lt 32, 3) := by decide +kernel
theorem dL_isFound_167 : decode cL_isFound 167 = .ok (.iload 11, 2) := by decide +kernel
theorem dL_isFound_169 : decode cL_isFound 169 = .ok (.ifCond .eq 15, 3) := by decide +kernel
theorem dL_isFound_172 : decode cL_isFound 172 = .ok (.iload 8, 2) := by decide +kernel
theorem dL_isFound_174 : decode cL_isFound 174 = .ok (.ifCond .lt 22, 3) := by decide +kernel
theorem dL_isFound_177 : decode cL_isFound 177 = .ok (.iload 9, 2) := by decide +kernel
theorem dL_isFound_179 : decode cL_isFound 179 = .ok (.iload 8, 2) := by decide +kernel
theorem dL_isFound_181 : decode cL_isFound 181 = .ok (.if_icmp .lt 15, 3) := by decide +kernel
theorem dL_isFound_184 : decode cL_isFound 184 = .ok (.iload 11, 2) := by decide +kernel
theorem dL_isFound_186 : decode cL_isFound 186 = .ok (.ifCond .ne 12, 3) := by decide +kernel
theorem dL_isFound_189 : decode cL_isFound 189 = .ok (.iload 9, 2) := by decide +kernel
theorem dL_isFound_191 : decode cL_isFound 191 = .ok (.iload 8, 2) := by decide +kernel
theorem dL_isFound_193 : decode cL_isFound 193 = .ok (.if_icmp .ne 5, 3) := by decide +kernel
theorem dL_isFound_196 : decode cL_isFound 196 = .ok (.iconst 0, 1) := by decide +kernel
theorem dL_isFound_197 : decode cL_isFound 197 = .ok (.ireturn, 1) := by decide +kernel
theorem dL_isFound_198 : decode cL_isFound 198 = .ok (.iinc 9 1, 3) := by decide +kernel
theorem dL_isFound_201 : decode cL_isFound 201 = .ok (.goto (-120), 3) := by decide +kernel
theorem dL_isFound_204 : decode cL_isFound 204 = .ok (.aload_n 0, 1) := by decide +kernel
theorem dL_isFound_205 : decode cL_isFound 205 = .ok (.invokestatic 43, 3) := by decide +kernel
theorem dL_isFound_208 : decode cL_isFound 208 = .ok (.lload_n 2, 1) := by decide +kernel
theorem dL_isFound_209 : decode cL_isFound 209 = .ok (.lcmp, 1) := by decide +kernel
theorem dL_isFound_210 : decode cL_isFound 210 = .ok (.ifCond .ne 7, 3) := by decide +kernel
theorem dL_isFound_213 : decode cL_isFound 213 = .ok (.iconst 1, 1) := by decide +kernel
theorem dL_isFound_214 : decode cL_isFound 214 = .ok (.goto 4, 3) := by decide +kernel
theorem dL_isFound_217 : decode cL_isFound 217 = .ok (.iconst 0, 1) := by decide +kernel
theorem dL_isFound_218 : decode cL_isFound 218 = .ok (.ireturn, 1) := by decide +kernel
theorem dL_acts_0 : decode cL_acts 0 = .ok (.aload_n 0, 1) := by decide +kernel
theorem dL_acts_1 : decode cL_acts 1 = .ok (.iconst 1, 1) := by decide +kernel
theorem dL_acts_2 : decode cL_acts 2 = .ok (.invokevirtual 12, 3) := by decide +kernel
theorem dL_acts_5 : decode cL_acts 5 = .ok (.istore_n 2, 1) := by decide +kernel
theorem dL_acts_6 : decode cL_acts 6 = .ok (.iload_n 1, 1) := by decide +kernel
theorem dL_acts_7 : decode cL_acts 7 = .ok (.iconst 4, 1) := by decide +kernel
theorem dL_acts_8 : decode cL_acts 8 = .ok (.ishr, 1) := by decide +kernel
theorem dL_acts_9 : decode cL_acts 9 = .ok (.iload_n 1, 1) := by decide +kernel
theorem dL_acts_10 : decode cL_acts 10 = .ok (.bipush 27, 2) := by decide +kernel
theorem dL_acts_12 : decode cL_acts 12 = .ok (.ishr, 1) := by decide +kernel
theorem dL_acts_13 : decode cL_acts 13 = .ok (.iconst 3, 1) := by decide +kernel
theorem dL_acts_14 : decode cL_acts 14 = .ok (.iand, 1) := by decide +kernel
theorem dL_acts_15 : decode cL_acts 15 = .ok (.ifCond .ne 13, 3) := by decide +kernel
theorem dL_acts_18 : decode cL_acts 18 = .ok (.aload_n 0, 1) := by decide +kernel
theorem dL_acts_19 : decode cL_acts 19 = .ok (.iconst 2, 1) := by decide +kernel
theorem dL_acts_20 : decode cL_acts 20 = .ok (.invokevirtual 12, 3) := by decide +kernel
theorem dL_acts_23 : decode cL_acts 23 = .ok (.iconst 1, 1) := by decide +kernel
theorem dL_acts_24 : decode cL_acts 24 = .ok (.iadd, 1) := by decide +kernel
theorem dL_acts_25 : decode cL_acts 25 = .ok (.goto 8, 3) := by decide +kernel
theorem dL_acts_28 : decode cL_acts 28 = .ok (.aload_n 0, 1) := by decide +kernel
theorem dL_acts_29 : decode cL_acts 29 = .ok (.iconst 2, 1) := by decide +kernel
theorem dL_acts_30 : decode cL_acts 30 = .ok (.invokevirtual 12, 3) := by decide +kernel
theorem dL_acts_33 : decode cL_acts 33 = .ok (.invokestatic 49, 3) := by decide +kernel
theorem dL_acts_36 : decode cL_acts 36 = .ok (.istore_n 3, 1) := by decide +kernel
theorem dL_acts_37 : decode cL_acts 37 = .ok (.iload_n 1, 1) := by decide +kernel
theorem dL_acts_38 : decode cL_acts 38 = .ok (.bipush 8, 2) := by decide +kernel
theorem dL_acts_40 : decode cL_acts 40 = .ok (.ishr, 1) := by decide +kernel
theorem dL_acts_41 : decode cL_acts 41 = .ok (.iload_n 2, 1) := by decide +kernel
theorem dL_acts_42 : decode cL_acts 42 = .ok (.invokestatic 49, 3) := by decide +kernel
theorem dL_acts_45 : decode cL_acts 45 = .ok (.istore 4, 2) := by decide +kernel
theorem dL_acts_47 : decode cL_acts 47 = .ok (.aload_n 0, 1) := by decide +kernel
theorem dL_acts_48 : decode cL_acts 48 = .ok (.iconst 0, 1) := by decide +kernel
theorem dL_acts_49 : decode cL_acts 49 = .ok (.invokevirtual 12, 3) := by decide +kernel
theorem dL_acts_52 : decode cL_acts 52 = .ok (.iload_n 1, 1) := by decide +kernel
theorem dL_acts_53 : decode cL_acts 53 = .ok (.bipush 11, 2) := by decide +kernel
theorem dL_acts_55 : decode cL_acts 55 = .ok (.ishr, 1) := by decide +kernel
theorem dL_acts_56 : decode cL_acts 56 = .ok (.bipush 9, 2) := by decide +kernel
theorem dL_acts_58 : decode cL_acts 58 = .ok (.invokestatic 49, 3) := by decide +kernel
theorem dL_acts_61 : decode cL_acts 61 = .ok (.iadd, 1) := by decide +kernel
theorem dL_acts_62 : decode cL_acts 62 = .ok (.iload_n 1, 1) := by decide +kernel
theorem dL_acts_63 : decode cL_acts 63 = .ok (.bipush 26, 2) := by decide +kernel
theorem dL_acts_65 : decode cL_acts 65 = .ok (.ishr, 1) := by decide +kernel
theorem dL_acts_66 : decode cL_acts 66 = .ok (.iconst 1, 1) := by decide +kernel
theorem dL_acts_67 : decode cL_acts 67 = .ok (.iand, 1) := by decide +kernel
theorem dL_acts_68 : decode cL_acts 68 = .ok (.isub, 1) := by decide +kernel
theorem dL_acts_69 : decode cL_acts 69 = .ok (.istore 5, 2) := by decide +kernel
theorem dL_acts_71 : decode cL_acts 71 = .ok (.iload_n 1, 1) := by decide +kernel
theorem dL_acts_72 : decode cL_acts 72 = .ok (.bipush 18, 2) := by decide +kernel
theorem dL_acts_74 : decode cL_acts 74 = .ok (.invokestatic 49, 3) := by decide +kernel
theorem dL_acts_77 : decode cL_acts 77 = .ok (.tableswitch 223 0 13 #[71, 76, 76, 76, 76, 109, 109, 125, 143, 143, 175, 175, 175, 204], 71) := by decide +kernel
theorem dL_acts_148 : decode cL_acts 148 = .ok (.aload_n 0, 1) := by decide +kernel
theorem dL_acts_149 : decode cL_acts 149 = .ok (.invokevirtual 73, 3) := by decide +kernel
theorem dL_acts_152 : decode cL_acts 152 = .ok (.ireturn, 1) := by decide +kernel
theorem dL_acts_153 : decode cL_acts 153 = .ok (.aload_n 0, 1) := by decide +kernel
theorem dL_acts_154 : decode cL_acts 154 = .ok (.iload_n 3, 1) := by decide +kernel
theorem dL_acts_155 : decode cL_acts 155 = .ok (.iload 4, 2) := by decide +kernel
theorem dL_acts_157 : decode cL_acts 157 = .ok (.iload 5, 2) := by decide +kernel
theorem dL_acts_159 : decode cL_acts 159 = .ok (.iconst 1, 1) := by decide +kernel
theorem dL_acts_160 : decode cL_acts 160 = .ok (.iload_n 1, 1) := by decide +kernel
theorem dL_acts_161 : decode cL_acts 161 = .ok (.bipush 15, 2) := by decide +kernel
theorem dL_acts_163 : decode cL_acts 163 = .ok (.ishr, 1) := by decide +kernel
theorem dL_acts_164 : decode cL_acts 164 = .ok (.sipush 500, 3) := by decide +kernel
theorem dL_acts_167 : decode cL_acts 167 = .ok (.invokestatic 49, 3) := by decide +kernel
theorem dL_acts_170 : decode cL_acts 170 = .ok (.iadd, 1) := by decide +kernel
theorem dL_acts_171 : decode cL_acts 171 = .ok (.iconst 2, 1) := by decide +kernel
theorem dL_acts_172 : decode cL_acts 172 = .ok (.iload_n 1, 1) := by decide +kernel
theorem dL_acts_173 : decode cL_acts 173 = .ok (.bipush 20, 2) := by decide +kernel
theorem dL_acts_175 : decode cL_acts 175 = .ok (.ishr, 1) := by decide +kernel
theorem dL_acts_176 : decode cL_acts 176 = .ok (.bipush 40, 2) := by decide +kernel
theorem dL_acts_178 : decode cL_acts 178 = .ok (.invokestatic 49, 3) := by decide +kernel
theorem dL_acts_181 : decode cL_acts 181 = .ok (.iadd, 1) := by decide +kernel
theorem dL_acts_182 : decode cL_acts 182 = .ok (.invokevirtual 69, 3) := by decide +kernel
theorem dL_acts_185 : decode cL_acts 185 = .ok (.ireturn, 1) := by decide +kernel
theorem dL_acts_186 : decode cL_acts 186 = .ok (.aload_n 0, 1) := by decide +kernel
theorem dL_acts_187 : decode cL_acts 187 = .ok (.iload 5, 2) := by decide +kernel
theorem dL_acts_189 : decode cL_acts 189 = .ok (.iload_n 1, 1) := by decide +kernel
theorem dL_acts_190 : decode cL_acts 190 = .ok (.bipush 15, 2) := by decide +kernel
theorem dL_acts_192 : decode cL_acts 192 = .ok (.ishr, 1) := by decide +kernel
theorem dL_acts_193 : decode cL_acts 193 = .ok (.bipush 101, 2) := by decide +kernel
theorem dL_acts_195 : decode cL_acts 195 = .ok (.invokestatic 49, 3) := by decide +kernel
theorem dL_acts_198 : decode cL_acts 198 = .ok (.invokevirtual 76, 3) := by decide +kernel
theorem dL_acts_201 : decode cL_acts 201 = .ok (.ireturn, 1) := by decide +kernel
theorem dL_acts_202 : decode cL_acts 202 = .ok (.aload_n 0, 1) := by decide +kernel
theorem dL_acts_203 : decode cL_acts 203 = .ok (.iload_n 1, 1) := by decide +kernel
theorem dL_acts_204 : decode cL_acts 204 = .ok (.iconst 4, 1) := by decide +kernel
theorem dL_acts_205 : decode cL_acts 205 = .ok (.ishr, 1) := by decide +kernel
theorem dL_acts_206 : decode cL_acts 206 = .ok (.iconst 1, 1) := by decide +kernel
theorem dL_acts_207 : decode cL_acts 207 = .ok (.aload_n 0, 1) := by decide +kernel
theorem dL_acts_208 : decode cL_acts 208 = .ok (.iconst 3, 1) := by decide +kernel
theorem dL_acts_209 : decode cL_acts 209 = .ok (.invokevirtual 12, 3) := by decide +kernel
theorem dL_acts_212 : decode cL_acts 212 = .ok (.iadd, 1) := by decide +kernel
theorem dL_acts_213 : decode cL_acts 213 = .ok (.invokestatic 49, 3) := by decide +kernel
theorem dL_acts_216 : decode cL_acts 216 = .ok (.invokevirtual 79, 3) := by decide +kernel
theorem dL_acts_219 : decode cL_acts 219 = .ok (.ireturn, 1) := by decide +kernel
theorem dL_acts_220 : decode cL_acts 220 = .ok (.aload_n 0, 1) := by decide +kernel
theorem dL_acts_221 : decode cL_acts 221 = .ok (.iload_n 1, 1) := by decide +kernel
theorem dL_acts_222 : decode cL_acts 222 = .ok (.iconst 4, 1) := by decide +kernel
theorem dL_acts_223 : decode cL_acts 223 = .ok (.ishr, 1) := by decide +kernel
theorem dL_acts_224 : decode cL_acts 224 = .ok (.iconst 1, 1) := by decide +kernel
theorem dL_acts_225 : decode cL_acts 225 = .ok (.aload_n 0, 1) := by decide +kernel
theorem dL_acts_226 : decode cL_acts 226 = .ok (.iconst 3, 1) := by decide +kernel
theorem dL_acts_227 : decode cL_acts 227 = .ok (.invokevirtual 12, 3) := by decide +kernel
theorem dL_acts_230 : decode cL_acts 230 = .ok (.iadd, 1) := by decide +kernel
theorem dL_acts_231 : decode cL_acts 231 = .ok (.invokestatic 49, 3) := by decide +kernel
theorem dL_acts_234 : decode cL_acts 234 = .ok (.iload_n 1, 1) := by decide +kernel
theorem dL_acts_235 : decode cL_acts 235 = .ok (.bipush 9, 2) := by decide +kernel
theorem dL_acts_237 : decode cL_acts 237 = .ok (.ishr, 1) := by decide +kernel
theorem dL_acts_238 : decode cL_acts 238 = .ok (.iconst 1, 1) := by decide +kernel
theorem dL_acts_239 : decode cL_acts 239 = .ok (.aload_n 0, 1) := by decide +kernel
theorem dL_acts_240 : decode cL_acts 240 = .ok (.iconst 3, 1) := by decide +kernel
theorem dL_acts_241 : decode cL_acts 241 = .ok (.invokevirtual 12, 3) := by decide +kernel
theorem dL_acts_244 : decode cL_acts 244 = .ok (.iadd, 1) := by decide +kernel
theorem dL_acts_245 : decode cL_acts 245 = .ok (.invokestatic 49, 3) := by decide +kernel
theorem dL_acts_248 : decode cL_acts 248 = .ok (.invokevirtual 82, 3) := by decide +kernel
theorem dL_acts_251 : decode cL_acts 251 = .ok (.ireturn, 1) := by decide +kernel
theorem dL_acts_252 : decode cL_acts 252 = .ok (.aload_n 0, 1) := by decide +kernel
theorem dL_acts_253 : decode cL_acts 253 = .ok (.iload_n 3, 1) := by decide +kernel
theorem dL_acts_254 : decode cL_acts 254 = .ok (.iload 4, 2) := by decide +kernel
theorem dL_acts_256 : decode cL_acts 256 = .ok (.iload_n 1, 1) := by decide +kernel
theorem dL_acts_257 : decode cL_acts 257 = .ok (.bipush 15, 2) := by decide +kernel
theorem dL_acts_259 : decode cL_acts 259 = .ok (.ishr, 1) := by decide +kernel
theorem dL_acts_260 : decode cL_acts 260 = .ok (.iload_n 2, 1) := by decide +kernel
theorem dL_acts_261 : decode cL_acts 261 = .ok (.invokestatic 49, 3) := by decide +kernel
theorem dL_acts_264 : decode cL_acts 264 = .ok (.iconst 1, 1) := by decide +kernel
theorem dL_acts_265 : decode cL_acts 265 = .ok (.iload_n 1, 1) := by decide +kernel
theorem dL_acts_266 : decode cL_acts 266 = .ok (.bipush 18, 2) := by decide +kernel
theorem dL_acts_268 : decode cL_acts 268 = .ok (.ishr, 1) := by decide +kernel
theorem dL_acts_269 : decode cL_acts 269 = .ok (.bipush 12, 2) := by decide +kernel
theorem dL_acts_271 : decode cL_acts 271 = .ok (.invokestatic 49, 3) := by decide +kernel
theorem dL_acts_274 : decode cL_acts 274 = .ok (.iadd, 1) := by decide +kernel
theorem dL_acts_275 : decode cL_acts 275 = .ok (.iload 5, 2) := by decide +kernel
theorem dL_acts_277 : decode cL_acts 277 = .ok (.invokevirtual 85, 3) := by decide +kernel
theorem dL_acts_280 : decode cL_acts 280 = .ok (.ireturn, 1) := by decide +kernel
theorem dL_acts_281 : decode cL_acts 281 = .ok (.aload_n 0, 1) := by decide +kernel
theorem dL_acts_282 : decode cL_acts 282 = .ok (.iload_n 1, 1) := by decide +kernel
theorem dL_acts_283 : decode cL_acts 283 = .ok (.iconst 4, 1) := by decide +kernel
theorem dL_acts_284 : decode cL_acts 284 = .ok (.ishr, 1) := by decide +kernel
theorem dL_acts_285 : decode cL_acts 285 = .ok (.iconst 1, 1) := by decide +kernel
theorem dL_acts_286 : decode cL_acts 286 = .ok (.aload_n 0, 1) := by decide +kernel
theorem dL_acts_287 : decode cL_acts 287 = .ok (.bipush 8, 2) := by decide +kernel
theorem dL_acts_289 : decode cL_acts 289 = .ok (.invokevirtual 12, 3) := by decide +kernel
theorem dL_acts_292 : decode cL_acts 292 = .ok (.iadd, 1) := by decide +kernel
theorem dL_acts_293 : decode cL_acts 293 = .ok (.invokestatic 49, 3) := by decide +kernel
theorem dL_acts_296 : decode cL_acts 296 = .ok (.invokevirtual 88, 3) := by decide +kernel
theorem dL_acts_299 : decode cL_acts 299 = .ok (.ireturn, 1) := by decide +kernel
theorem dL_acts_300 : decode cL_acts 300 = .ok (.aload_n 0, 1) := by decide +kernel
theorem dL_acts_301 : decode cL_acts 301 = .ok (.iload_n 1, 1) := by decide +kernel
theorem dL_acts_302 : decode cL_acts 302 = .ok (.iconst 4, 1) := by decide +kernel
theorem dL_acts_303 : decode cL_acts 303 = .ok (.ishr, 1) := by decide +kernel
theorem dL_acts_304 : decode cL_acts 304 = .ok (.iload_n 1, 1) := by decide +kernel
theorem dL_acts_305 : decode cL_acts 305 = .ok (.bipush 20, 2) := by decide +kernel
theorem dL_acts_307 : decode cL_acts 307 = .ok (.ishr, 1) := by decide +kernel
theorem dL_acts_308 : decode cL_acts 308 = .ok (.iconst 3, 1) := by decide +kernel
theorem dL_acts_309 : decode cL_acts 309 = .ok (.iand, 1) := by decide +kernel
theorem dL_acts_310 : decode cL_acts 310 = .ok (.ifCond .ne 8, 3) := by decide +kernel
theorem dL_acts_313 : decode cL_acts 313 = .ok (.bipush 21, 2) := by decide +kernel
theorem dL_acts_315 : decode cL_acts 315 = .ok (.goto 4, 3) := by decide +kernel
theorem dL_acts_318 : decode cL_acts 318 = .ok (.iconst 4, 1) := by decide +kernel
theorem dL_acts_319 : decode cL_acts 319 = .ok (.invokestatic 49, 3) := by decide +kernel
theorem dL_acts_322 : decode cL_acts 322 = .ok (.invokevirtual 55, 3) := by decide +kernel
theorem dL_acts_325 : decode cL_acts 325 = .ok (.ireturn, 1) := by decide +kernel
theorem dL_law_0 : decode cL_law 0 = .ok (.new 13, 3) := by decide +kernel
theorem dL_law_3 : decode cL_law 3 = .ok (.dup, 1) := by decide +kernel
theorem dL_law_4 : decode cL_law 4 = .ok (.invokespecial 91, 3) := by decide +kernel
theorem dL_law_7 : decode cL_law 7 = .ok (.astore_n 1, 1) := by decide +kernel
theorem dL_law_8 : decode cL_law 8 = .ok (.aload_n 0, 1) := by decide +kernel
theorem dL_law_9 : decode cL_law 9 = .ok (.iconst 0, 1) := by decide +kernel
theorem dL_law_10 : decode cL_law 10 = .ok (.invokestatic 92, 3) := by decide +kernel
theorem dL_law_13 : decode cL_law 13 = .ok (.istore_n 2, 1) := by decide +kernel
theorem dL_law_14 : decode cL_law 14 = .ok (.iconst 0, 1) := by decide +kernel
theorem dL_law_15 : decode cL_law 15 = .ok (.istore_n 3, 1) := by decide +kernel
theorem dL_law_16 : decode cL_law 16 = .ok (.iconst 0, 1) := by decide +kernel
theorem dL_law_17 : decode cL_law 17 = .ok (.istore 4, 2) := by decide +kernel
theorem dL_law_19 : decode cL_law 19 = .ok (.iload 4, 2) := by decide +kernel
theorem dL_law_21 : decode cL_law 21 = .ok (.iconst 2, 1) := by decide +kernel
theorem dL_law_22 : decode cL_law 22 = .ok (.iload_n 2, 1) := by decide +kernel
theorem dL_law_23 : decode cL_law 23 = .ok (.iconst 3, 1) := by decide +kernel
theorem dL_law_24 : decode cL_law 24 = .ok (.invokestatic 49, 3) := by decide +kernel
theorem dL_law_27 : decode cL_law 27 = .ok (.iadd, 1) := by decide +kernel
theorem dL_law_28 : decode cL_law 28 = .ok (.if_icmp .ge 55, 3) := by decide +kernel
theorem dL_law_31 : decode cL_law 31 = .ok (.iload_n 2, 1) := by decide +kernel
theorem dL_law_32 : decode cL_law 32 = .ok (.iconst 3, 1) := by decide +kernel
theorem dL_law_33 : decode cL_law 33 = .ok (.iload 4, 2) := by decide +kernel
theorem dL_law_35 : decode cL_law 35 = .ok (.imul, 1) := by decide +kernel
theorem dL_law_36 : decode cL_law 36 = .ok (.ishr, 1) := by decide +kernel
theorem dL_law_37 : decode cL_law 37 = .ok (.bipush 13, 2) := by decide +kernel
theorem dL_law_39 : decode cL_law 39 = .ok (.invokestatic 49, 3) := by decide +kernel
theorem dL_law_42 : decode cL_law 42 = .ok (.istore 5, 2) := by decide +kernel
theorem dL_law_44 : decode cL_law 44 = .ok (.iload_n 3, 1) := by decide +kernel
theorem dL_law_45 : decode cL_law 45 = .ok (.iload 5, 2) := by decide +kernel
theorem dL_law_47 : decode cL_law 47 = .ok (.iadd, 1) := by decide +kernel
theorem dL_law_48 : decode cL_law 48 = .ok (.istore_n 3, 1) := by decide +kernel
theorem dL_law_49 : decode cL_law 49 = .ok (.aload_n 1, 1) := by decide +kernel
theorem dL_law_50 : decode cL_law 50 = .ok (.bipush 10, 2) := by decide +kernel
theorem dL_law_52 : decode cL_law 52 = .ok (.iload_n 2, 1) := by decide +kernel
theorem dL_law_53 : decode cL_law 53 = .ok (.iconst 4, 1) := by decide +kernel
theorem dL_law_54 : decode cL_law 54 = .ok (.iconst 5, 1) := by decide +kernel
theorem dL_law_55 : decode cL_law 55 = .ok (.iload 4, 2) := by decide +kernel
theorem dL_law_57 : decode cL_law 57 = .ok (.imul, 1) := by decide +kernel
theorem dL_law_58 : decode cL_law 58 = .ok (.iadd, 1) := by decide +kernel
theorem dL_law_59 : decode cL_law 59 = .ok (.ishr, 1) := by decide +kernel
theorem dL_law_60 : decode cL_law 60 = .ok (.bipush 100, 2) := by decide +kernel
theorem dL_law_62 : decode cL_law 62 = .ok (.invokestatic 49, 3) := by decide +kernel
theorem dL_law_65 : decode cL_law 65 = .ok (.iadd, 1) := by decide +kernel
theorem dL_law_66 : decode cL_law 66 = .ok (.iload 5, 2) := by decide +kernel
theorem dL_law_68 : decode cL_law 68 = .ok (.invokevirtual 96, 3) := by decide +kernel
theorem dL_law_71 : decode cL_law 71 = .ok (.pop, 1) := by decide +kernel
theorem dL_law_72 : decode cL_law 72 = .ok (.aload_n 1, 1) := by decide +kernel
theorem dL_law_73 : decode cL_law 73 = .ok (.invokevirtual 73, 3) := by decide +kernel
theorem dL_law_76 : decode cL_law 76 = .ok (.pop, 1) := by decide +kernel
theorem dL_law_77 : decode cL_law 77 = .ok (.iinc 4 1, 3) := by decide +kernel
theorem dL_law_80 : decode cL_law 80 = .ok (.goto (-61), 3) := by decide +kernel
theorem dL_law_83 : decode cL_law 83 = .ok (.iconst 0, 1) := by decide +kernel
theorem dL_law_84 : decode cL_law 84 = .ok (.istore 4, 2) := by decide +kernel
theorem dL_law_86 : decode cL_law 86 = .ok (.iload 4, 2) := by decide +kernel
theorem dL_law_88 : decode cL_law 88 = .ok (.bipush 24, 2) := by decide +kernel
theorem dL_law_90 : decode cL_law 90 = .ok (.if_icmp .ge 141, 3) := by decide +kernel
theorem dL_law_93 : decode cL_law 93 = .ok (.aload_n 0, 1) := by decide +kernel
theorem dL_law_94 : decode cL_law 94 = .ok (.iconst 1, 1) := by decide +kernel
theorem dL_law_95 : decode cL_law 95 = .ok (.iload 4, 2) := by decide +kernel
theorem dL_law_97 : decode cL_law 97 = .ok (.iadd, 1) := by decide +kernel
theorem dL_law_98 : decode cL_law 98 = .ok (.invokestatic 92, 3) := by decide +kernel
theorem dL_law_101 : decode cL_law 101 = .ok (.istore 5, 2) := by decide +kernel
theorem dL_law_103 : decode cL_law 103 = .ok (.aload_n 1, 1) := by decide +kernel
theorem dL_law_104 : decode cL_law 104 = .ok (.invokestatic 43, 3) := by decide +kernel
theorem dL_law_107 : decode cL_law 107 = .ok (.lstore 6, 2) := by decide +kernel
theorem dL_law_109 : decode cL_law 109 = .ok (.aload_n 1, 1) := by decide +kernel
theorem dL_law_110 : decode cL_law 110 = .ok (.iload 5, 2) := by decide +kernel
theorem dL_law_112 : decode cL_law 112 = .ok (.invokestatic 99, 3) := by decide +kernel
theorem dL_law_115 : decode cL_law 115 = .ok (.istore 8, 2) := by decide +kernel
theorem dL_law_117 : decode cL_law 117 = .ok (.iload 8, 2) := by decide +kernel
theorem dL_law_119 : decode cL_law 119 = .ok (.ifCond .ge 15, 3) := by decide +kernel
theorem dL_law_122 : decode cL_law 122 = .ok (.aload_n 1, 1) := by decide +kernel
theorem dL_law_123 : decode cL_law 123 = .ok (.invokestatic 43, 3) := by decide +kernel
theorem dL_law_126 : decode cL_law 126 = .ok (.lload 6, 2) := by decide +kernel
theorem dL_law_128 : decode cL_law 128 = .ok (.lcmp, 1) := by decide +kernel
theorem dL_law_129 : decode cL_law 129 = .ok (.ifCond .eq 5, 3) := by decide +kernel
theorem dL_law_132 : decode cL_law 132 = .ok (.iconst 0, 1) := by decide +kernel
theorem dL_law_133 : decode cL_law 133 = .ok (.ireturn, 1) := by decide +kernel
theorem dL_law_134 : decode cL_law 134 = .ok (.iload 8, 2) := by decide +kernel
theorem dL_law_136 : decode cL_law 136 = .ok (.ifCond .lt 32, 3) := by decide +kernel
theorem dL_law_139 : decode cL_law 139 = .ok (.iload 5, 2) := by decide +kernel
theorem dL_law_141 : decode cL_law 141 = .ok (.bipush 28, 2) := by decide +kernel
theorem dL_law_143 : decode cL_law 143 = .ok (.ishr, 1) := by decide +kernel
theorem dL_law_144 : decode cL_law 144 = .ok (.iconst 3, 1) := by decide +kernel
theorem dL_law_145 : decode cL_law 145 = .ok (.iand, 1) := by decide +kernel
theorem dL_law_146 : decode cL_law 146 = .ok (.ifCond .ne 22, 3) := by decide +kernel
theorem dL_law_149 : decode cL_law 149 = .ok (.aload_n 1, 1) := by decide +kernel
theorem dL_law_150 : decode cL_law 150 = .ok (.invokevirtual 58, 3) := by decide +kernel
theorem dL_law_153 : decode cL_law 153 = .ok (.ifCond .lt 13, 3) := by decide +kernel
theorem dL_law_156 : decode cL_law 156 = .ok (.aload_n 1, 1) := by decide +kernel
theorem dL_law_157 : decode cL_law 157 = .ok (.invokestatic 43, 3) := by decide +kernel
theorem dL_law_160 : decode cL_law 160 = .ok (.lload 6, 2) := by decide +kernel
theorem dL_law_162 : decode cL_law 162 = .ok (.lcmp, 1) := by decide +kernel
theorem dL_law_163 : decode cL_law 163 = .ok (.ifCond .eq 5, 3) := by decide +kernel
theorem dL_law_166 : decode cL_law 166 = .ok (.iconst 0, 1) := by decide +kernel
theorem dL_law_167 : decode cL_law 167 = .ok (.ireturn, 1) := by decide +kernel
theorem dL_law_168 : decode cL_law 168 = .ok (.iload 4, 2) := by decide +kernel
theorem dL_law_170 : decode cL_law 170 = .ok (.iconst 2, 1) := by decide +kernel
theorem dL_law_171 : decode cL_law 171 = .ok (.irem, 1) := by decide +kernel
theorem dL_law_172 : decode cL_law 172 = .ok (.iconst 1, 1) := by decide +kernel
theorem dL_law_173 : decode cL_law 173 = .ok (.if_icmp .ne 11, 3) := by decide +kernel
theorem dL_law_176 : decode cL_law 176 = .ok (.aload_n 1, 1) := by decide +kernel
theorem dL_law_177 : decode cL_law 177 = .ok (.iload_n 3, 1) := by decide +kernel
theorem dL_law_178 : decode cL_law 178 = .ok (.invokestatic 103, 3) := by decide +kernel
theorem dL_law_181 : decode cL_law 181 = .ok (.ifCond .eq 42, 3) := by decide +kernel
theorem dL_law_184 : decode cL_law 184 = .ok (.iload 4, 2) := by decide +kernel
theorem dL_law_186 : decode cL_law 186 = .ok (.iconst 4, 1) := by decide +kernel
theorem dL_law_187 : decode cL_law 187 = .ok (.irem, 1) := by decide +kernel
theorem dL_law_188 : decode cL_law 188 = .ok (.iconst 2, 1) := by decide +kernel
theorem dL_law_189 : decode cL_law 189 = .ok (.if_icmp .ne 15, 3) := by decide +kernel
theorem dL_law_192 : decode cL_law 192 = .ok (.aload_n 1, 1) := by decide +kernel
theorem dL_law_193 : decode cL_law 193 = .ok (.iload 5, 2) := by decide +kernel
theorem dL_law_195 : decode cL_law 195 = .ok (.bipush 7, 2) := by decide +kernel
theorem dL_law_197 : decode cL_law 197 = .ok (.ishr, 1) := by decide +kernel
theorem dL_law_198 : decode cL_law 198 = .ok (.invokestatic 107, 3) := by decide +kernel
theorem dL_law_201 : decode cL_law 201 = .ok (.ifCond .eq 22, 3) := by decide +kernel
theorem dL_law_204 : decode cL_law 204 = .ok (.iload 4, 2) := by decide +kernel
theorem dL_law_206 : decode cL_law 206 = .ok (.iconst 4, 1) := by decide +kernel
theorem dL_law_207 : decode cL_law 207 = .ok (.irem, 1) := by decide +kernel
theorem dL_law_208 : decode cL_law 208 = .ok (.ifCond .ne 17, 3) := by decide +kernel
theorem dL_law_211 : decode cL_law 211 = .ok (.aload_n 1, 1) := by decide +kernel
theorem dL_law_212 : decode cL_law 212 = .ok (.iload 5, 2) := by decide +kernel
theorem dL_law_214 : decode cL_law 214 = .ok (.bipush 9, 2) := by decide +kernel
theorem dL_law_216 : decode cL_law 216 = .ok (.ishr, 1) := by decide +kernel
theorem dL_law_217 : decode cL_law 217 = .ok (.invokestatic 110, 3) := by decide +kernel
theorem dL_law_220 : decode cL_law 220 = .ok (.ifCond .ne 5, 3) := by decide +kernel
theorem dL_law_223 : decode cL_law 223 = .ok (.iconst 0, 1) := by decide +kernel
theorem dL_law_224 : decode cL_law 224 = .ok (.ireturn, 1) := by decide +kernel
theorem dL_law_225 : decode cL_law 225 = .ok (.iinc 4 1, 3) := by decide +kernel
theorem dL_law_228 : decode cL_law 228 = .ok (.goto (-142), 3) := by decide +kernel
theorem dL_law_231 : decode cL_law 231 = .ok (.aload_n 1, 1) := by decide +kernel
theorem dL_law_232 : decode cL_law 232 = .ok (.invokestatic 43, 3) := by decide +kernel
theorem dL_law_235 : decode cL_law 235 = .ok (.lstore 4, 2) := by decide +kernel
theorem dL_law_237 : decode cL_law 237 = .ok (.aload_n 1, 1) := by decide +kernel
theorem dL_law_238 : decode cL_law 238 = .ok (.invokevirtual 113, 3) := by decide +kernel
theorem dL_law_241 : decode cL_law 241 = .ok (.aload_n 1, 1) := by decide +kernel
theorem dL_law_242 : decode cL_law 242 = .ok (.iconst 0, 1) := by decide +kernel
theorem dL_law_243 : decode cL_law 243 = .ok (.invokevirtual 12, 3) := by decide +kernel
theorem dL_law_246 : decode cL_law 246 = .ok (.if_icmp .eq 5, 3) := by decide +kernel
theorem dL_law_249 : decode cL_law 249 = .ok (.iconst 0, 1) := by decide +kernel
theorem dL_law_250 : decode cL_law 250 = .ok (.ireturn, 1) := by decide +kernel
theorem dL_law_251 : decode cL_law 251 = .ok (.aload_n 1, 1) := by decide +kernel
theorem dL_law_252 : decode cL_law 252 = .ok (.bipush 7, 2) := by decide +kernel
theorem dL_law_254 : decode cL_law 254 = .ok (.invokevirtual 55, 3) := by decide +kernel
theorem dL_law_257 : decode cL_law 257 = .ok (.pop, 1) := by decide +kernel
theorem dL_law_258 : decode cL_law 258 = .ok (.aload_n 1, 1) := by decide +kernel
theorem dL_law_259 : decode cL_law 259 = .ok (.bipush 99, 2) := by decide +kernel
theorem dL_law_261 : decode cL_law 261 = .ok (.iconst 1, 1) := by decide +kernel
theorem dL_law_262 : decode cL_law 262 = .ok (.invokevirtual 96, 3) := by decide +kernel
theorem dL_law_265 : decode cL_law 265 = .ok (.pop, 1) := by decide +kernel
theorem dL_law_266 : decode cL_law 266 = .ok (.aload_n 1, 1) := by decide +kernel
theorem dL_law_267 : decode cL_law 267 = .ok (.sipush 199, 3) := by decide +kernel
theorem dL_law_270 : decode cL_law 270 = .ok (.bipush 50, 2) := by decide +kernel
theorem dL_law_272 : decode cL_law 272 = .ok (.invokevirtual 76, 3) := by decide +kernel
theorem dL_law_275 : decode cL_law 275 = .ok (.pop, 1) := by decide +kernel
theorem dL_law_276 : decode cL_law 276 = .ok (.aload_n 1, 1) := by decide +kernel
theorem dL_law_277 : decode cL_law 277 = .ok (.invokevirtual 116, 3) := by decide +kernel
theorem dL_law_280 : decode cL_law 280 = .ok (.aload_n 1, 1) := by decide +kernel
theorem dL_law_281 : decode cL_law 281 = .ok (.iconst 0, 1) := by decide +kernel
theorem dL_law_282 : decode cL_law 282 = .ok (.invokevirtual 12, 3) := by decide +kernel
theorem dL_law_285 : decode cL_law 285 = .ok (.if_icmp .ne 168, 3) := by decide +kernel
theorem dL_law_288 : decode cL_law 288 = .ok (.aload_n 1, 1) := by decide +kernel
theorem dL_law_289 : decode cL_law 289 = .ok (.invokestatic 43, 3) := by decide +kernel
theorem dL_law_292 : decode cL_law 292 = .ok (.lload 4, 2) := by decide +kernel
theorem dL_law_294 : decode cL_law 294 = .ok (.lcmp, 1) := by decide +kernel
theorem dL_law_295 : decode cL_law 295 = .ok (.ifCond .ne 158, 3) := by decide +kernel
theorem dL_law_298 : decode cL_law 298 = .ok (.aload_n 1, 1) := by decide +kernel
theorem dL_law_299 : decode cL_law 299 = .ok (.invokevirtual 58, 3) := by decide +kernel
theorem dL_law_302 : decode cL_law 302 = .ok (.ifCond .lt 151, 3) := by decide +kernel
theorem dL_law_305 : decode cL_law 305 = .ok (.aload_n 1, 1) := by decide +kernel
theorem dL_law_306 : decode cL_law 306 = .ok (.invokevirtual 116, 3) := by decide +kernel
theorem dL_law_309 : decode cL_law 309 = .ok (.ifCond .lt 144, 3) := by decide +kernel
theorem dL_law_312 : decode cL_law 312 = .ok (.aload_n 1, 1) := by decide +kernel
theorem dL_law_313 : decode cL_law 313 = .ok (.invokestatic 43, 3) := by decide +kernel
theorem dL_law_316 : decode cL_law 316 = .ok (.lload 4, 2) := by decide +kernel
theorem dL_law_318 : decode cL_law 318 = .ok (.lcmp, 1) := by decide +kernel
theorem dL_law_319 : decode cL_law 319 = .ok (.ifCond .ne 134, 3) := by decide +kernel
theorem dL_law_322 : decode cL_law 322 = .ok (.aload_n 1, 1) := by decide +kernel
theorem dL_law_323 : decode cL_law 323 = .ok (.iconst 5, 1) := by decide +kernel
theorem dL_law_324 : decode cL_law 324 = .ok (.iconst 0, 1) := by decide +kernel
theorem dL_law_325 : decode cL_law 325 = .ok (.invokevirtual 18, 3) := by decide +kernel
theorem dL_law_328 : decode cL_law 328 = .ok (.iconst (-1), 1) := by decide +kernel
theorem dL_law_329 : decode cL_law 329 = .ok (.if_icmp .ne 124, 3) := by decide +kernel
theorem dL_law_332 : decode cL_law 332 = .ok (.aload_n 1, 1) := by decide +kernel
theorem dL_law_333 : decode cL_law 333 = .ok (.iconst 0, 1) := by decide +kernel
theorem dL_law_334 : decode cL_law 334 = .ok (.bipush 7, 2) := by decide +kernel
theorem dL_law_336 : decode cL_law 336 = .ok (.invokevirtual 18, 3) := by decide +kernel
theorem dL_law_339 : decode cL_law 339 = .ok (.bipush (-2), 2) := by decide +kernel
theorem dL_law_341 : decode cL_law 341 = .ok (.if_icmp .ne 112, 3) := by decide +kernel
theorem dL_law_344 : decode cL_law 344 = .ok (.aload_n 1, 1) := by decide +kernel
theorem dL_law_345 : decode cL_law 345 = .ok (.bipush 8, 2) := by decide +kernel
theorem dL_law_347 : decode cL_law 347 = .ok (.iconst 0, 1) := by decide +kernel
theorem dL_law_348 : decode cL_law 348 = .ok (.invokevirtual 22, 3) := by decide +kernel
theorem dL_law_351 : decode cL_law 351 = .ok (.iconst (-1), 1) := by decide +kernel
theorem dL_law_352 : decode cL_law 352 = .ok (.if_icmp .ne 101, 3) := by decide +kernel
theorem dL_law_355 : decode cL_law 355 = .ok (.aload_n 1, 1) := by decide +kernel
theorem dL_law_356 : decode cL_law 356 = .ok (.bipush 30, 2) := by decide +kernel
theorem dL_law_358 : decode cL_law 358 = .ok (.iconst 0, 1) := by decide +kernel
theorem dL_law_359 : decode cL_law 359 = .ok (.invokevirtual 25, 3) := by decide +kernel
theorem dL_law_362 : decode cL_law 362 = .ok (.iconst (-1), 1) := by decide +kernel
theorem dL_law_363 : decode cL_law 363 = .ok (.if_icmp .ne 90, 3) := by decide +kernel
theorem dL_law_366 : decode cL_law 366 = .ok (.aload_n 1, 1) := by decide +kernel
theorem dL_law_367 : decode cL_law 367 = .ok (.bipush 10, 2) := by decide +kernel
theorem dL_law_369 : decode cL_law 369 = .ok (.iconst 0, 1) := by decide +kernel
theorem dL_law_370 : decode cL_law 370 = .ok (.invokevirtual 28, 3) := by decide +kernel
theorem dL_law_373 : decode cL_law 373 = .ok (.iconst (-1), 1) := by decide +kernel
theorem dL_law_374 : decode cL_law 374 = .ok (.if_icmp .ne 79, 3) := by decide +kernel
theorem dL_law_377 : decode cL_law 377 = .ok (.aload_n 1, 1) := by decide +kernel
theorem dL_law_378 : decode cL_law 378 = .ok (.bipush 30, 2) := by decide +kernel
theorem dL_law_380 : decode cL_law 380 = .ok (.invokevirtual 52, 3) := by decide +kernel
theorem dL_law_383 : decode cL_law 383 = .ok (.iconst (-1), 1) := by decide +kernel
theorem dL_law_384 : decode cL_law 384 = .ok (.if_icmp .ne 69, 3) := by decide +kernel
theorem dL_law_387 : decode cL_law 387 = .ok (.aload_n 1, 1) := by decide +kernel
theorem dL_law_388 : decode cL_law 388 = .ok (.iconst 0, 1) := by decide +kernel
theorem dL_law_389 : decode cL_law 389 = .ok (.sipush 200, 3) := by decide +kernel
theorem dL_law_392 : decode cL_law 392 = .ok (.invokevirtual 37, 3) := by decide +kernel
theorem dL_law_395 : decode cL_law 395 = .ok (.iconst (-1), 1) := by decide +kernel
theorem dL_law_396 : decode cL_law 396 = .ok (.if_icmp .ne 57, 3) := by decide +kernel
theorem dL_law_399 : decode cL_law 399 = .ok (.aload_n 1, 1) := by decide +kernel
theorem dL_law_400 : decode cL_law 400 = .ok (.sipush 200, 3) := by decide +kernel
theorem dL_law_403 : decode cL_law 403 = .ok (.iconst 1, 1) := by decide +kernel
theorem dL_law_404 : decode cL_law 404 = .ok (.iconst 2, 1) := by decide +kernel
theorem dL_law_405 : decode cL_law 405 = .ok (.invokevirtual 66, 3) := by decide +kernel
theorem dL_law_408 : decode cL_law 408 = .ok (.iconst (-1), 1) := by decide +kernel
theorem dL_law_409 : decode cL_law 409 = .ok (.if_icmp .ne 44, 3) := by decide +kernel
theorem dL_law_412 : decode cL_law 412 = .ok (.aload_n 1, 1) := by decide +kernel
theorem dL_law_413 : decode cL_law 413 = .ok (.sipush 199, 3) := by decide +kernel
theorem dL_law_416 : decode cL_law 416 = .ok (.iconst 0, 1) := by decide +kernel
theorem dL_law_417 : decode cL_law 417 = .ok (.iconst 2, 1) := by decide +kernel
theorem dL_law_418 : decode cL_law 418 = .ok (.invokevirtual 66, 3) := by decide +kernel
theorem dL_law_421 : decode cL_law 421 = .ok (.bipush (-2), 2) := by decide +kernel
theorem dL_law_423 : decode cL_law 423 = .ok (.if_icmp .ne 30, 3) := by decide +kernel
theorem dL_law_426 : decode cL_law 426 = .ok (.aload_n 1, 1) := by decide +kernel
theorem dL_law_427 : decode cL_law 427 = .ok (.bipush 17, 2) := by decide +kernel
theorem dL_law_429 : decode cL_law 429 = .ok (.invokevirtual 12, 3) := by decide +kernel
theorem dL_law_432 : decode cL_law 432 = .ok (.bipush (-2), 2) := by decide +kernel
theorem dL_law_434 : decode cL_law 434 = .ok (.if_icmp .ne 19, 3) := by decide +kernel
theorem dL_law_437 : decode cL_law 437 = .ok (.aload_n 1, 1) := by decide +kernel
theorem dL_law_438 : decode cL_law 438 = .ok (.bipush 9, 2) := by decide +kernel
theorem dL_law_440 : decode cL_law 440 = .ok (.iconst 0, 1) := by decide +kernel
theorem dL_law_441 : decode cL_law 441 = .ok (.invokevirtual 96, 3) := by decide +kernel
theorem dL_law_444 : decode cL_law 444 = .ok (.bipush (-2), 2) := by decide +kernel
theorem dL_law_446 : decode cL_law 446 = .ok (.if_icmp .ne 7, 3) := by decide +kernel
theorem dL_law_449 : decode cL_law 449 = .ok (.iconst 1, 1) := by decide +kernel
theorem dL_law_450 : decode cL_law 450 = .ok (.goto 4, 3) := by decide +kernel
theorem dL_law_453 : decode cL_law 453 = .ok (.iconst 0, 1) := by decide +kernel
theorem dL_law_454 : decode cL_law 454 = .ok (.ireturn, 1) := by decide +kernel
