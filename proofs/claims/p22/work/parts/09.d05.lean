theorem dL_refuses_0 : decode cL_refuses 0 = .ok (.aload_n 0, 1) := by decide +kernel
theorem dL_refuses_1 : decode cL_refuses 1 = .ok (.invokevirtual 75, 3) := by decide +kernel
theorem dL_refuses_4 : decode cL_refuses 4 = .ok (.istore_n 3, 1) := by decide +kernel
theorem dL_refuses_5 : decode cL_refuses 5 = .ok (.aload_n 0, 1) := by decide +kernel
theorem dL_refuses_6 : decode cL_refuses 6 = .ok (.iconst 0, 1) := by decide +kernel
theorem dL_refuses_7 : decode cL_refuses 7 = .ok (.iconst 0, 1) := by decide +kernel
theorem dL_refuses_8 : decode cL_refuses 8 = .ok (.sipush 363, 3) := by decide +kernel
theorem dL_refuses_11 : decode cL_refuses 11 = .ok (.invokevirtual 60, 3) := by decide +kernel
theorem dL_refuses_14 : decode cL_refuses 14 = .ok (.istore 4, 2) := by decide +kernel
theorem dL_refuses_16 : decode cL_refuses 16 = .ok (.aload_n 0, 1) := by decide +kernel
theorem dL_refuses_17 : decode cL_refuses 17 = .ok (.iconst 0, 1) := by decide +kernel
theorem dL_refuses_18 : decode cL_refuses 18 = .ok (.iconst 0, 1) := by decide +kernel
theorem dL_refuses_19 : decode cL_refuses 19 = .ok (.invokevirtual 67, 3) := by decide +kernel
theorem dL_refuses_22 : decode cL_refuses 22 = .ok (.istore 5, 2) := by decide +kernel
theorem dL_refuses_24 : decode cL_refuses 24 = .ok (.ldc 79, 2) := by decide +kernel
theorem dL_refuses_26 : decode cL_refuses 26 = .ok (.istore 6, 2) := by decide +kernel
theorem dL_refuses_28 : decode cL_refuses 28 = .ok (.iconst 0, 1) := by decide +kernel
theorem dL_refuses_29 : decode cL_refuses 29 = .ok (.istore 7, 2) := by decide +kernel
theorem dL_refuses_31 : decode cL_refuses 31 = .ok (.iload 7, 2) := by decide +kernel
theorem dL_refuses_33 : decode cL_refuses 33 = .ok (.iconst 4, 1) := by decide +kernel
theorem dL_refuses_34 : decode cL_refuses 34 = .ok (.if_icmp .ge 822, 3) := by decide +kernel
theorem dL_refuses_37 : decode cL_refuses 37 = .ok (.iload 7, 2) := by decide +kernel
theorem dL_refuses_39 : decode cL_refuses 39 = .ok (.ifCond .ne 7, 3) := by decide +kernel
theorem dL_refuses_42 : decode cL_refuses 42 = .ok (.iconst (-1), 1) := by decide +kernel
theorem dL_refuses_43 : decode cL_refuses 43 = .ok (.goto 19, 3) := by decide +kernel
theorem dL_refuses_46 : decode cL_refuses 46 = .ok (.iload 7, 2) := by decide +kernel
theorem dL_refuses_48 : decode cL_refuses 48 = .ok (.iconst 2, 1) := by decide +kernel
theorem dL_refuses_49 : decode cL_refuses 49 = .ok (.if_icmp .ne 8, 3) := by decide +kernel
theorem dL_refuses_52 : decode cL_refuses 52 = .ok (.iload 6, 2) := by decide +kernel
theorem dL_refuses_54 : decode cL_refuses 54 = .ok (.goto 8, 3) := by decide +kernel
theorem dL_refuses_57 : decode cL_refuses 57 = .ok (.iload 6, 2) := by decide +kernel
theorem dL_refuses_59 : decode cL_refuses 59 = .ok (.ineg, 1) := by decide +kernel
theorem dL_refuses_60 : decode cL_refuses 60 = .ok (.iconst 1, 1) := by decide +kernel
theorem dL_refuses_61 : decode cL_refuses 61 = .ok (.isub, 1) := by decide +kernel
theorem dL_refuses_62 : decode cL_refuses 62 = .ok (.istore 8, 2) := by decide +kernel
theorem dL_refuses_64 : decode cL_refuses 64 = .ok (.iload 7, 2) := by decide +kernel
theorem dL_refuses_66 : decode cL_refuses 66 = .ok (.iconst 1, 1) := by decide +kernel
theorem dL_refuses_67 : decode cL_refuses 67 = .ok (.if_icmp .ne 7, 3) := by decide +kernel
theorem dL_refuses_70 : decode cL_refuses 70 = .ok (.iconst 4, 1) := by decide +kernel
theorem dL_refuses_71 : decode cL_refuses 71 = .ok (.goto 5, 3) := by decide +kernel
theorem dL_refuses_74 : decode cL_refuses 74 = .ok (.iload 8, 2) := by decide +kernel
theorem dL_refuses_76 : decode cL_refuses 76 = .ok (.istore 9, 2) := by decide +kernel
theorem dL_refuses_78 : decode cL_refuses 78 = .ok (.iload 7, 2) := by decide +kernel
theorem dL_refuses_80 : decode cL_refuses 80 = .ok (.iconst 1, 1) := by decide +kernel
theorem dL_refuses_81 : decode cL_refuses 81 = .ok (.if_icmp .ne 7, 3) := by decide +kernel
theorem dL_refuses_84 : decode cL_refuses 84 = .ok (.iload_n 1, 1) := by decide +kernel
theorem dL_refuses_85 : decode cL_refuses 85 = .ok (.goto 5, 3) := by decide +kernel
theorem dL_refuses_88 : decode cL_refuses 88 = .ok (.iload 8, 2) := by decide +kernel
theorem dL_refuses_90 : decode cL_refuses 90 = .ok (.istore 10, 2) := by decide +kernel
theorem dL_refuses_92 : decode cL_refuses 92 = .ok (.iload 7, 2) := by decide +kernel
theorem dL_refuses_94 : decode cL_refuses 94 = .ok (.iconst 1, 1) := by decide +kernel
theorem dL_refuses_95 : decode cL_refuses 95 = .ok (.if_icmp .ne 7, 3) := by decide +kernel
theorem dL_refuses_98 : decode cL_refuses 98 = .ok (.iload_n 2, 1) := by decide +kernel
theorem dL_refuses_99 : decode cL_refuses 99 = .ok (.goto 5, 3) := by decide +kernel
theorem dL_refuses_102 : decode cL_refuses 102 = .ok (.iload 8, 2) := by decide +kernel
theorem dL_refuses_104 : decode cL_refuses 104 = .ok (.istore 11, 2) := by decide +kernel
theorem dL_refuses_106 : decode cL_refuses 106 = .ok (.iload 7, 2) := by decide +kernel
theorem dL_refuses_108 : decode cL_refuses 108 = .ok (.iconst 1, 1) := by decide +kernel
theorem dL_refuses_109 : decode cL_refuses 109 = .ok (.if_icmp .ne 7, 3) := by decide +kernel
theorem dL_refuses_112 : decode cL_refuses 112 = .ok (.iload_n 3, 1) := by decide +kernel
theorem dL_refuses_113 : decode cL_refuses 113 = .ok (.goto 5, 3) := by decide +kernel
theorem dL_refuses_116 : decode cL_refuses 116 = .ok (.iload 8, 2) := by decide +kernel
theorem dL_refuses_118 : decode cL_refuses 118 = .ok (.istore 12, 2) := by decide +kernel
theorem dL_refuses_120 : decode cL_refuses 120 = .ok (.iload 7, 2) := by decide +kernel
theorem dL_refuses_122 : decode cL_refuses 122 = .ok (.iconst 1, 1) := by decide +kernel
theorem dL_refuses_123 : decode cL_refuses 123 = .ok (.if_icmp .ne 9, 3) := by decide +kernel
theorem dL_refuses_126 : decode cL_refuses 126 = .ok (.sipush 364, 3) := by decide +kernel
theorem dL_refuses_129 : decode cL_refuses 129 = .ok (.goto 5, 3) := by decide +kernel
theorem dL_refuses_132 : decode cL_refuses 132 = .ok (.iload 8, 2) := by decide +kernel
theorem dL_refuses_134 : decode cL_refuses 134 = .ok (.istore 13, 2) := by decide +kernel
theorem dL_refuses_136 : decode cL_refuses 136 = .ok (.aload_n 0, 1) := by decide +kernel
theorem dL_refuses_137 : decode cL_refuses 137 = .ok (.iconst 0, 1) := by decide +kernel
theorem dL_refuses_138 : decode cL_refuses 138 = .ok (.iload 9, 2) := by decide +kernel
theorem dL_refuses_140 : decode cL_refuses 140 = .ok (.iconst 5, 1) := by decide +kernel
theorem dL_refuses_141 : decode cL_refuses 141 = .ok (.iconst 0, 1) := by decide +kernel
theorem dL_refuses_142 : decode cL_refuses 142 = .ok (.iconst 0, 1) := by decide +kernel
theorem dL_refuses_143 : decode cL_refuses 143 = .ok (.invokestatic 80, 3) := by decide +kernel
theorem dL_refuses_146 : decode cL_refuses 146 = .ok (.bipush (-72), 2) := by decide +kernel
theorem dL_refuses_148 : decode cL_refuses 148 = .ok (.if_icmp .ne 389, 3) := by decide +kernel
theorem dL_refuses_151 : decode cL_refuses 151 = .ok (.aload_n 0, 1) := by decide +kernel
theorem dL_refuses_152 : decode cL_refuses 152 = .ok (.iconst 0, 1) := by decide +kernel
theorem dL_refuses_153 : decode cL_refuses 153 = .ok (.iconst 0, 1) := by decide +kernel
theorem dL_refuses_154 : decode cL_refuses 154 = .ok (.iload 7, 2) := by decide +kernel
theorem dL_refuses_156 : decode cL_refuses 156 = .ok (.ifCond .ne 7, 3) := by decide +kernel
theorem dL_refuses_159 : decode cL_refuses 159 = .ok (.iconst 0, 1) := by decide +kernel
theorem dL_refuses_160 : decode cL_refuses 160 = .ok (.goto 17, 3) := by decide +kernel
theorem dL_refuses_163 : decode cL_refuses 163 = .ok (.iload 7, 2) := by decide +kernel
theorem dL_refuses_165 : decode cL_refuses 165 = .ok (.iconst 1, 1) := by decide +kernel
theorem dL_refuses_166 : decode cL_refuses 166 = .ok (.if_icmp .ne 9, 3) := by decide +kernel
theorem dL_refuses_169 : decode cL_refuses 169 = .ok (.sipush 10001, 3) := by decide +kernel
theorem dL_refuses_172 : decode cL_refuses 172 = .ok (.goto 5, 3) := by decide +kernel
theorem dL_refuses_175 : decode cL_refuses 175 = .ok (.iload 8, 2) := by decide +kernel
theorem dL_refuses_177 : decode cL_refuses 177 = .ok (.iconst 0, 1) := by decide +kernel
theorem dL_refuses_178 : decode cL_refuses 178 = .ok (.iconst 0, 1) := by decide +kernel
theorem dL_refuses_179 : decode cL_refuses 179 = .ok (.invokestatic 80, 3) := by decide +kernel
theorem dL_refuses_182 : decode cL_refuses 182 = .ok (.bipush (-72), 2) := by decide +kernel
theorem dL_refuses_184 : decode cL_refuses 184 = .ok (.if_icmp .ne 353, 3) := by decide +kernel
theorem dL_refuses_187 : decode cL_refuses 187 = .ok (.aload_n 0, 1) := by decide +kernel
theorem dL_refuses_188 : decode cL_refuses 188 = .ok (.iload 7, 2) := by decide +kernel
theorem dL_refuses_190 : decode cL_refuses 190 = .ok (.iconst 1, 1) := by decide +kernel
theorem dL_refuses_191 : decode cL_refuses 191 = .ok (.if_icmp .ne 9, 3) := by decide +kernel
theorem dL_refuses_194 : decode cL_refuses 194 = .ok (.sipush 128, 3) := by decide +kernel
theorem dL_refuses_197 : decode cL_refuses 197 = .ok (.goto 5, 3) := by decide +kernel
theorem dL_refuses_200 : decode cL_refuses 200 = .ok (.iload 8, 2) := by decide +kernel
theorem dL_refuses_202 : decode cL_refuses 202 = .ok (.iconst 5, 1) := by decide +kernel
theorem dL_refuses_203 : decode cL_refuses 203 = .ok (.bipush 6, 2) := by decide +kernel
theorem dL_refuses_205 : decode cL_refuses 205 = .ok (.iconst 1, 1) := by decide +kernel
theorem dL_refuses_206 : decode cL_refuses 206 = .ok (.bipush 100, 2) := by decide +kernel
theorem dL_refuses_208 : decode cL_refuses 208 = .ok (.invokestatic 86, 3) := by decide +kernel
theorem dL_refuses_211 : decode cL_refuses 211 = .ok (.bipush (-72), 2) := by decide +kernel
