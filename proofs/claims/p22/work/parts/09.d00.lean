theorem dL_pays_0 : decode cL_pays 0 = .ok (.new 8, 3) := by decide +kernel
theorem dL_pays_3 : decode cL_pays 3 = .ok (.dup, 1) := by decide +kernel
theorem dL_pays_4 : decode cL_pays 4 = .ok (.invokespecial 89, 3) := by decide +kernel
theorem dL_pays_7 : decode cL_pays 7 = .ok (.astore_n 0, 1) := by decide +kernel
theorem dL_pays_8 : decode cL_pays 8 = .ok (.aload_n 0, 1) := by decide +kernel
theorem dL_pays_9 : decode cL_pays 9 = .ok (.invokevirtual 75, 3) := by decide +kernel
theorem dL_pays_12 : decode cL_pays 12 = .ok (.ifCond .ne 329, 3) := by decide +kernel
theorem dL_pays_15 : decode cL_pays 15 = .ok (.aload_n 0, 1) := by decide +kernel
theorem dL_pays_16 : decode cL_pays 16 = .ok (.bipush 15, 2) := by decide +kernel
theorem dL_pays_18 : decode cL_pays 18 = .ok (.iconst 0, 1) := by decide +kernel
theorem dL_pays_19 : decode cL_pays 19 = .ok (.iconst 0, 1) := by decide +kernel
theorem dL_pays_20 : decode cL_pays 20 = .ok (.iconst 0, 1) := by decide +kernel
theorem dL_pays_21 : decode cL_pays 21 = .ok (.iconst 0, 1) := by decide +kernel
theorem dL_pays_22 : decode cL_pays 22 = .ok (.invokestatic 80, 3) := by decide +kernel
theorem dL_pays_25 : decode cL_pays 25 = .ok (.bipush (-71), 2) := by decide +kernel
theorem dL_pays_27 : decode cL_pays 27 = .ok (.if_icmp .ne 314, 3) := by decide +kernel
theorem dL_pays_30 : decode cL_pays 30 = .ok (.aload_n 0, 1) := by decide +kernel
theorem dL_pays_31 : decode cL_pays 31 = .ok (.iconst 0, 1) := by decide +kernel
theorem dL_pays_32 : decode cL_pays 32 = .ok (.invokevirtual 28, 3) := by decide +kernel
theorem dL_pays_35 : decode cL_pays 35 = .ok (.ifCond .ne 306, 3) := by decide +kernel
theorem dL_pays_38 : decode cL_pays 38 = .ok (.aload_n 0, 1) := by decide +kernel
theorem dL_pays_39 : decode cL_pays 39 = .ok (.iconst 2, 1) := by decide +kernel
theorem dL_pays_40 : decode cL_pays 40 = .ok (.invokevirtual 28, 3) := by decide +kernel
theorem dL_pays_43 : decode cL_pays 43 = .ok (.iconst 1, 1) := by decide +kernel
theorem dL_pays_44 : decode cL_pays 44 = .ok (.if_icmp .ne 297, 3) := by decide +kernel
theorem dL_pays_47 : decode cL_pays 47 = .ok (.aload_n 0, 1) := by decide +kernel
theorem dL_pays_48 : decode cL_pays 48 = .ok (.iconst 0, 1) := by decide +kernel
theorem dL_pays_49 : decode cL_pays 49 = .ok (.iconst 2, 1) := by decide +kernel
theorem dL_pays_50 : decode cL_pays 50 = .ok (.invokestatic 90, 3) := by decide +kernel
theorem dL_pays_53 : decode cL_pays 53 = .ok (.ifCond .eq 288, 3) := by decide +kernel
theorem dL_pays_56 : decode cL_pays 56 = .ok (.aload_n 0, 1) := by decide +kernel
theorem dL_pays_57 : decode cL_pays 57 = .ok (.bipush 96, 2) := by decide +kernel
theorem dL_pays_59 : decode cL_pays 59 = .ok (.iconst 0, 1) := by decide +kernel
theorem dL_pays_60 : decode cL_pays 60 = .ok (.bipush 96, 2) := by decide +kernel
theorem dL_pays_62 : decode cL_pays 62 = .ok (.bipush 15, 2) := by decide +kernel
theorem dL_pays_64 : decode cL_pays 64 = .ok (.sipush 150, 3) := by decide +kernel
theorem dL_pays_67 : decode cL_pays 67 = .ok (.invokevirtual 7, 3) := by decide +kernel
theorem dL_pays_70 : decode cL_pays 70 = .ok (.ifCond .ne 271, 3) := by decide +kernel
theorem dL_pays_73 : decode cL_pays 73 = .ok (.aload_n 0, 1) := by decide +kernel
theorem dL_pays_74 : decode cL_pays 74 = .ok (.bipush 127, 2) := by decide +kernel
theorem dL_pays_76 : decode cL_pays 76 = .ok (.bipush 80, 2) := by decide +kernel
theorem dL_pays_78 : decode cL_pays 78 = .ok (.bipush 96, 2) := by decide +kernel
theorem dL_pays_80 : decode cL_pays 80 = .ok (.iconst 1, 1) := by decide +kernel
theorem dL_pays_81 : decode cL_pays 81 = .ok (.bipush 125, 2) := by decide +kernel
theorem dL_pays_83 : decode cL_pays 83 = .ok (.invokevirtual 7, 3) := by decide +kernel
theorem dL_pays_86 : decode cL_pays 86 = .ok (.iconst 1, 1) := by decide +kernel
theorem dL_pays_87 : decode cL_pays 87 = .ok (.if_icmp .ne 254, 3) := by decide +kernel
theorem dL_pays_90 : decode cL_pays 90 = .ok (.aload_n 0, 1) := by decide +kernel
theorem dL_pays_91 : decode cL_pays 91 = .ok (.iconst 0, 1) := by decide +kernel
theorem dL_pays_92 : decode cL_pays 92 = .ok (.iconst 0, 1) := by decide +kernel
theorem dL_pays_93 : decode cL_pays 93 = .ok (.bipush 96, 2) := by decide +kernel
theorem dL_pays_95 : decode cL_pays 95 = .ok (.iconst 3, 1) := by decide +kernel
theorem dL_pays_96 : decode cL_pays 96 = .ok (.sipush 250, 3) := by decide +kernel
theorem dL_pays_99 : decode cL_pays 99 = .ok (.invokevirtual 7, 3) := by decide +kernel
theorem dL_pays_102 : decode cL_pays 102 = .ok (.iconst 2, 1) := by decide +kernel
theorem dL_pays_103 : decode cL_pays 103 = .ok (.if_icmp .ne 238, 3) := by decide +kernel
theorem dL_pays_106 : decode cL_pays 106 = .ok (.aload_n 0, 1) := by decide +kernel
theorem dL_pays_107 : decode cL_pays 107 = .ok (.bipush 127, 2) := by decide +kernel
theorem dL_pays_109 : decode cL_pays 109 = .ok (.iconst 0, 1) := by decide +kernel
theorem dL_pays_110 : decode cL_pays 110 = .ok (.bipush 24, 2) := by decide +kernel
theorem dL_pays_112 : decode cL_pays 112 = .ok (.bipush 15, 2) := by decide +kernel
theorem dL_pays_114 : decode cL_pays 114 = .ok (.sipush 130, 3) := by decide +kernel
theorem dL_pays_117 : decode cL_pays 117 = .ok (.invokevirtual 7, 3) := by decide +kernel
theorem dL_pays_120 : decode cL_pays 120 = .ok (.iconst 3, 1) := by decide +kernel
theorem dL_pays_121 : decode cL_pays 121 = .ok (.if_icmp .ne 220, 3) := by decide +kernel
theorem dL_pays_124 : decode cL_pays 124 = .ok (.aload_n 0, 1) := by decide +kernel
theorem dL_pays_125 : decode cL_pays 125 = .ok (.iconst 0, 1) := by decide +kernel
theorem dL_pays_126 : decode cL_pays 126 = .ok (.iconst 0, 1) := by decide +kernel
theorem dL_pays_127 : decode cL_pays 127 = .ok (.bipush 76, 2) := by decide +kernel
theorem dL_pays_129 : decode cL_pays 129 = .ok (.bipush 8, 2) := by decide +kernel
theorem dL_pays_131 : decode cL_pays 131 = .ok (.invokevirtual 35, 3) := by decide +kernel
theorem dL_pays_134 : decode cL_pays 134 = .ok (.ifCond .ne 207, 3) := by decide +kernel
theorem dL_pays_137 : decode cL_pays 137 = .ok (.aload_n 0, 1) := by decide +kernel
theorem dL_pays_138 : decode cL_pays 138 = .ok (.iconst 0, 1) := by decide +kernel
theorem dL_pays_139 : decode cL_pays 139 = .ok (.invokevirtual 45, 3) := by decide +kernel
theorem dL_pays_142 : decode cL_pays 142 = .ok (.bipush 12, 2) := by decide +kernel
theorem dL_pays_144 : decode cL_pays 144 = .ok (.if_icmp .ne 197, 3) := by decide +kernel
theorem dL_pays_147 : decode cL_pays 147 = .ok (.aload_n 0, 1) := by decide +kernel
theorem dL_pays_148 : decode cL_pays 148 = .ok (.iconst 0, 1) := by decide +kernel
theorem dL_pays_149 : decode cL_pays 149 = .ok (.iconst 3, 1) := by decide +kernel
theorem dL_pays_150 : decode cL_pays 150 = .ok (.bipush 100, 2) := by decide +kernel
theorem dL_pays_152 : decode cL_pays 152 = .ok (.iconst (-1), 1) := by decide +kernel
theorem dL_pays_153 : decode cL_pays 153 = .ok (.invokestatic 94, 3) := by decide +kernel
theorem dL_pays_156 : decode cL_pays 156 = .ok (.ifCond .eq 185, 3) := by decide +kernel
theorem dL_pays_159 : decode cL_pays 159 = .ok (.aload_n 0, 1) := by decide +kernel
theorem dL_pays_160 : decode cL_pays 160 = .ok (.iconst 0, 1) := by decide +kernel
theorem dL_pays_161 : decode cL_pays 161 = .ok (.iconst 4, 1) := by decide +kernel
theorem dL_pays_162 : decode cL_pays 162 = .ok (.bipush 125, 2) := by decide +kernel
theorem dL_pays_164 : decode cL_pays 164 = .ok (.iconst 1, 1) := by decide +kernel
theorem dL_pays_165 : decode cL_pays 165 = .ok (.invokestatic 94, 3) := by decide +kernel
theorem dL_pays_168 : decode cL_pays 168 = .ok (.ifCond .eq 173, 3) := by decide +kernel
theorem dL_pays_171 : decode cL_pays 171 = .ok (.aload_n 0, 1) := by decide +kernel
theorem dL_pays_172 : decode cL_pays 172 = .ok (.iconst 0, 1) := by decide +kernel
theorem dL_pays_173 : decode cL_pays 173 = .ok (.bipush 11, 2) := by decide +kernel
theorem dL_pays_175 : decode cL_pays 175 = .ok (.bipush 125, 2) := by decide +kernel
theorem dL_pays_177 : decode cL_pays 177 = .ok (.iconst 1, 1) := by decide +kernel
theorem dL_pays_178 : decode cL_pays 178 = .ok (.invokestatic 94, 3) := by decide +kernel
theorem dL_pays_181 : decode cL_pays 181 = .ok (.ifCond .eq 160, 3) := by decide +kernel
theorem dL_pays_184 : decode cL_pays 184 = .ok (.aload_n 0, 1) := by decide +kernel
theorem dL_pays_185 : decode cL_pays 185 = .ok (.bipush 9, 2) := by decide +kernel
theorem dL_pays_187 : decode cL_pays 187 = .ok (.iconst 0, 1) := by decide +kernel
theorem dL_pays_188 : decode cL_pays 188 = .ok (.bipush 12, 2) := by decide +kernel
theorem dL_pays_190 : decode cL_pays 190 = .ok (.iconst 0, 1) := by decide +kernel
theorem dL_pays_191 : decode cL_pays 191 = .ok (.iconst 0, 1) := by decide +kernel
theorem dL_pays_192 : decode cL_pays 192 = .ok (.invokestatic 80, 3) := by decide +kernel
theorem dL_pays_195 : decode cL_pays 195 = .ok (.bipush (-71), 2) := by decide +kernel
theorem dL_pays_197 : decode cL_pays 197 = .ok (.if_icmp .ne 144, 3) := by decide +kernel
theorem dL_pays_200 : decode cL_pays 200 = .ok (.aload_n 0, 1) := by decide +kernel
theorem dL_pays_201 : decode cL_pays 201 = .ok (.iconst 0, 1) := by decide +kernel
theorem dL_pays_202 : decode cL_pays 202 = .ok (.invokevirtual 57, 3) := by decide +kernel
