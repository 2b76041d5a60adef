theorem dL_hours_0 : decode cL_hours 0 = .ok (.new 8, 3) := by decide +kernel
theorem dL_hours_3 : decode cL_hours 3 = .ok (.dup, 1) := by decide +kernel
theorem dL_hours_4 : decode cL_hours 4 = .ok (.invokespecial 89, 3) := by decide +kernel
theorem dL_hours_7 : decode cL_hours 7 = .ok (.astore_n 0, 1) := by decide +kernel
theorem dL_hours_8 : decode cL_hours 8 = .ok (.aload_n 0, 1) := by decide +kernel
theorem dL_hours_9 : decode cL_hours 9 = .ok (.iconst 3, 1) := by decide +kernel
theorem dL_hours_10 : decode cL_hours 10 = .ok (.invokevirtual 28, 3) := by decide +kernel
theorem dL_hours_13 : decode cL_hours 13 = .ok (.ifCond .ne 191, 3) := by decide +kernel
theorem dL_hours_16 : decode cL_hours 16 = .ok (.aload_n 0, 1) := by decide +kernel
theorem dL_hours_17 : decode cL_hours 17 = .ok (.iconst 0, 1) := by decide +kernel
theorem dL_hours_18 : decode cL_hours 18 = .ok (.iconst 0, 1) := by decide +kernel
theorem dL_hours_19 : decode cL_hours 19 = .ok (.bipush 76, 2) := by decide +kernel
theorem dL_hours_21 : decode cL_hours 21 = .ok (.bipush 8, 2) := by decide +kernel
theorem dL_hours_23 : decode cL_hours 23 = .ok (.invokevirtual 35, 3) := by decide +kernel
theorem dL_hours_26 : decode cL_hours 26 = .ok (.ifCond .ne 178, 3) := by decide +kernel
theorem dL_hours_29 : decode cL_hours 29 = .ok (.aload_n 0, 1) := by decide +kernel
theorem dL_hours_30 : decode cL_hours 30 = .ok (.iconst 5, 1) := by decide +kernel
theorem dL_hours_31 : decode cL_hours 31 = .ok (.iconst 0, 1) := by decide +kernel
theorem dL_hours_32 : decode cL_hours 32 = .ok (.iconst 0, 1) := by decide +kernel
theorem dL_hours_33 : decode cL_hours 33 = .ok (.bipush 83, 2) := by decide +kernel
theorem dL_hours_35 : decode cL_hours 35 = .ok (.iconst 5, 1) := by decide +kernel
theorem dL_hours_36 : decode cL_hours 36 = .ok (.invokestatic 80, 3) := by decide +kernel
theorem dL_hours_39 : decode cL_hours 39 = .ok (.bipush (-73), 2) := by decide +kernel
theorem dL_hours_41 : decode cL_hours 41 = .ok (.if_icmp .ne 163, 3) := by decide +kernel
theorem dL_hours_44 : decode cL_hours 44 = .ok (.aload_n 0, 1) := by decide +kernel
theorem dL_hours_45 : decode cL_hours 45 = .ok (.iconst 5, 1) := by decide +kernel
theorem dL_hours_46 : decode cL_hours 46 = .ok (.iconst 0, 1) := by decide +kernel
theorem dL_hours_47 : decode cL_hours 47 = .ok (.iconst 0, 1) := by decide +kernel
theorem dL_hours_48 : decode cL_hours 48 = .ok (.bipush 70, 2) := by decide +kernel
theorem dL_hours_50 : decode cL_hours 50 = .ok (.bipush 7, 2) := by decide +kernel
theorem dL_hours_52 : decode cL_hours 52 = .ok (.invokestatic 80, 3) := by decide +kernel
theorem dL_hours_55 : decode cL_hours 55 = .ok (.bipush (-73), 2) := by decide +kernel
theorem dL_hours_57 : decode cL_hours 57 = .ok (.if_icmp .ne 147, 3) := by decide +kernel
theorem dL_hours_60 : decode cL_hours 60 = .ok (.aload_n 0, 1) := by decide +kernel
theorem dL_hours_61 : decode cL_hours 61 = .ok (.iconst 0, 1) := by decide +kernel
theorem dL_hours_62 : decode cL_hours 62 = .ok (.iconst 0, 1) := by decide +kernel
theorem dL_hours_63 : decode cL_hours 63 = .ok (.bipush 84, 2) := by decide +kernel
theorem dL_hours_65 : decode cL_hours 65 = .ok (.iconst 1, 1) := by decide +kernel
theorem dL_hours_66 : decode cL_hours 66 = .ok (.invokevirtual 35, 3) := by decide +kernel
theorem dL_hours_69 : decode cL_hours 69 = .ok (.iconst 1, 1) := by decide +kernel
theorem dL_hours_70 : decode cL_hours 70 = .ok (.if_icmp .ne 134, 3) := by decide +kernel
theorem dL_hours_73 : decode cL_hours 73 = .ok (.aload_n 0, 1) := by decide +kernel
theorem dL_hours_74 : decode cL_hours 74 = .ok (.iconst 0, 1) := by decide +kernel
theorem dL_hours_75 : decode cL_hours 75 = .ok (.iconst 0, 1) := by decide +kernel
theorem dL_hours_76 : decode cL_hours 76 = .ok (.bipush 75, 2) := by decide +kernel
theorem dL_hours_78 : decode cL_hours 78 = .ok (.iconst 1, 1) := by decide +kernel
theorem dL_hours_79 : decode cL_hours 79 = .ok (.invokevirtual 35, 3) := by decide +kernel
theorem dL_hours_82 : decode cL_hours 82 = .ok (.iconst 2, 1) := by decide +kernel
theorem dL_hours_83 : decode cL_hours 83 = .ok (.if_icmp .ne 121, 3) := by decide +kernel
theorem dL_hours_86 : decode cL_hours 86 = .ok (.aload_n 0, 1) := by decide +kernel
theorem dL_hours_87 : decode cL_hours 87 = .ok (.iconst 0, 1) := by decide +kernel
theorem dL_hours_88 : decode cL_hours 88 = .ok (.bipush 6, 2) := by decide +kernel
theorem dL_hours_90 : decode cL_hours 90 = .ok (.bipush 90, 2) := by decide +kernel
theorem dL_hours_92 : decode cL_hours 92 = .ok (.bipush 10, 2) := by decide +kernel
theorem dL_hours_94 : decode cL_hours 94 = .ok (.invokevirtual 35, 3) := by decide +kernel
theorem dL_hours_97 : decode cL_hours 97 = .ok (.iconst 3, 1) := by decide +kernel
theorem dL_hours_98 : decode cL_hours 98 = .ok (.if_icmp .ne 106, 3) := by decide +kernel
theorem dL_hours_101 : decode cL_hours 101 = .ok (.aload_n 0, 1) := by decide +kernel
theorem dL_hours_102 : decode cL_hours 102 = .ok (.iconst 5, 1) := by decide +kernel
theorem dL_hours_103 : decode cL_hours 103 = .ok (.iconst 0, 1) := by decide +kernel
theorem dL_hours_104 : decode cL_hours 104 = .ok (.bipush 7, 2) := by decide +kernel
theorem dL_hours_106 : decode cL_hours 106 = .ok (.iconst 3, 1) := by decide +kernel
theorem dL_hours_107 : decode cL_hours 107 = .ok (.iconst 1, 1) := by decide +kernel
theorem dL_hours_108 : decode cL_hours 108 = .ok (.invokestatic 80, 3) := by decide +kernel
theorem dL_hours_111 : decode cL_hours 111 = .ok (.bipush (-73), 2) := by decide +kernel
theorem dL_hours_113 : decode cL_hours 113 = .ok (.if_icmp .ne 91, 3) := by decide +kernel
theorem dL_hours_116 : decode cL_hours 116 = .ok (.aload_n 0, 1) := by decide +kernel
theorem dL_hours_117 : decode cL_hours 117 = .ok (.iconst 0, 1) := by decide +kernel
theorem dL_hours_118 : decode cL_hours 118 = .ok (.bipush 7, 2) := by decide +kernel
theorem dL_hours_120 : decode cL_hours 120 = .ok (.iconst 4, 1) := by decide +kernel
theorem dL_hours_121 : decode cL_hours 121 = .ok (.iconst 1, 1) := by decide +kernel
theorem dL_hours_122 : decode cL_hours 122 = .ok (.invokevirtual 35, 3) := by decide +kernel
theorem dL_hours_125 : decode cL_hours 125 = .ok (.iconst 4, 1) := by decide +kernel
theorem dL_hours_126 : decode cL_hours 126 = .ok (.if_icmp .ne 78, 3) := by decide +kernel
theorem dL_hours_129 : decode cL_hours 129 = .ok (.aload_n 0, 1) := by decide +kernel
theorem dL_hours_130 : decode cL_hours 130 = .ok (.iconst 0, 1) := by decide +kernel
theorem dL_hours_131 : decode cL_hours 131 = .ok (.iconst 0, 1) := by decide +kernel
theorem dL_hours_132 : decode cL_hours 132 = .ok (.invokevirtual 67, 3) := by decide +kernel
theorem dL_hours_135 : decode cL_hours 135 = .ok (.bipush 16, 2) := by decide +kernel
theorem dL_hours_137 : decode cL_hours 137 = .ok (.if_icmp .ne 67, 3) := by decide +kernel
theorem dL_hours_140 : decode cL_hours 140 = .ok (.aload_n 0, 1) := by decide +kernel
theorem dL_hours_141 : decode cL_hours 141 = .ok (.iconst 0, 1) := by decide +kernel
theorem dL_hours_142 : decode cL_hours 142 = .ok (.iconst 1, 1) := by decide +kernel
theorem dL_hours_143 : decode cL_hours 143 = .ok (.invokevirtual 67, 3) := by decide +kernel
theorem dL_hours_146 : decode cL_hours 146 = .ok (.iconst 5, 1) := by decide +kernel
theorem dL_hours_147 : decode cL_hours 147 = .ok (.if_icmp .ne 57, 3) := by decide +kernel
theorem dL_hours_150 : decode cL_hours 150 = .ok (.aload_n 0, 1) := by decide +kernel
theorem dL_hours_151 : decode cL_hours 151 = .ok (.iconst 0, 1) := by decide +kernel
theorem dL_hours_152 : decode cL_hours 152 = .ok (.iconst 0, 1) := by decide +kernel
theorem dL_hours_153 : decode cL_hours 153 = .ok (.invokevirtual 70, 3) := by decide +kernel
theorem dL_hours_156 : decode cL_hours 156 = .ok (.ifCond .ne 48, 3) := by decide +kernel
theorem dL_hours_159 : decode cL_hours 159 = .ok (.aload_n 0, 1) := by decide +kernel
theorem dL_hours_160 : decode cL_hours 160 = .ok (.iconst 3, 1) := by decide +kernel
theorem dL_hours_161 : decode cL_hours 161 = .ok (.invokevirtual 39, 3) := by decide +kernel
theorem dL_hours_164 : decode cL_hours 164 = .ok (.sipush 6000, 3) := by decide +kernel
theorem dL_hours_167 : decode cL_hours 167 = .ok (.if_icmp .ne 37, 3) := by decide +kernel
theorem dL_hours_170 : decode cL_hours 170 = .ok (.aload_n 0, 1) := by decide +kernel
theorem dL_hours_171 : decode cL_hours 171 = .ok (.iconst 0, 1) := by decide +kernel
theorem dL_hours_172 : decode cL_hours 172 = .ok (.bipush 7, 2) := by decide +kernel
theorem dL_hours_174 : decode cL_hours 174 = .ok (.iconst 0, 1) := by decide +kernel
theorem dL_hours_175 : decode cL_hours 175 = .ok (.iconst 4, 1) := by decide +kernel
theorem dL_hours_176 : decode cL_hours 176 = .ok (.invokevirtual 35, 3) := by decide +kernel
theorem dL_hours_179 : decode cL_hours 179 = .ok (.iconst 5, 1) := by decide +kernel
theorem dL_hours_180 : decode cL_hours 180 = .ok (.if_icmp .ne 24, 3) := by decide +kernel
theorem dL_hours_183 : decode cL_hours 183 = .ok (.aload_n 0, 1) := by decide +kernel
theorem dL_hours_184 : decode cL_hours 184 = .ok (.iconst 0, 1) := by decide +kernel
theorem dL_hours_185 : decode cL_hours 185 = .ok (.iconst 0, 1) := by decide +kernel
theorem dL_hours_186 : decode cL_hours 186 = .ok (.invokevirtual 67, 3) := by decide +kernel
theorem dL_hours_189 : decode cL_hours 189 = .ok (.bipush 10, 2) := by decide +kernel
theorem dL_hours_191 : decode cL_hours 191 = .ok (.if_icmp .ne 13, 3) := by decide +kernel
