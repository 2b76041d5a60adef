theorem dX4_init_0 : decode cX4_init 0 = .ok (.aload_n 0, 1) := by decide +kernel
theorem dX4_init_1 : decode cX4_init 1 = .ok (.invokespecial 1, 3) := by decide +kernel
theorem dX4_init_4 : decode cX4_init 4 = .ok (.aload_n 0, 1) := by decide +kernel
theorem dX4_init_5 : decode cX4_init 5 = .ok (.iconst 4, 1) := by decide +kernel
theorem dX4_init_6 : decode cX4_init 6 = .ok (.newarray .int, 2) := by decide +kernel
theorem dX4_init_8 : decode cX4_init 8 = .ok (.putfield 7, 3) := by decide +kernel
theorem dX4_init_11 : decode cX4_init 11 = .ok (.aload_n 0, 1) := by decide +kernel
theorem dX4_init_12 : decode cX4_init 12 = .ok (.bipush 16, 2) := by decide +kernel
theorem dX4_init_14 : decode cX4_init 14 = .ok (.newarray .int, 2) := by decide +kernel
theorem dX4_init_16 : decode cX4_init 16 = .ok (.putfield 13, 3) := by decide +kernel
theorem dX4_init_19 : decode cX4_init 19 = .ok (.aload_n 0, 1) := by decide +kernel
theorem dX4_init_20 : decode cX4_init 20 = .ok (.bipush 16, 2) := by decide +kernel
theorem dX4_init_22 : decode cX4_init 22 = .ok (.newarray .int, 2) := by decide +kernel
theorem dX4_init_24 : decode cX4_init 24 = .ok (.putfield 16, 3) := by decide +kernel
theorem dX4_init_27 : decode cX4_init 27 = .ok (.aload_n 0, 1) := by decide +kernel
theorem dX4_init_28 : decode cX4_init 28 = .ok (.bipush 16, 2) := by decide +kernel
theorem dX4_init_30 : decode cX4_init 30 = .ok (.newarray .int, 2) := by decide +kernel
theorem dX4_init_32 : decode cX4_init 32 = .ok (.putfield 19, 3) := by decide +kernel
theorem dX4_init_35 : decode cX4_init 35 = .ok (.aload_n 0, 1) := by decide +kernel
theorem dX4_init_36 : decode cX4_init 36 = .ok (.bipush 16, 2) := by decide +kernel
theorem dX4_init_38 : decode cX4_init 38 = .ok (.newarray .int, 2) := by decide +kernel
theorem dX4_init_40 : decode cX4_init 40 = .ok (.putfield 22, 3) := by decide +kernel
theorem dX4_init_43 : decode cX4_init 43 = .ok (.aload_n 0, 1) := by decide +kernel
theorem dX4_init_44 : decode cX4_init 44 = .ok (.bipush 16, 2) := by decide +kernel
theorem dX4_init_46 : decode cX4_init 46 = .ok (.newarray .int, 2) := by decide +kernel
theorem dX4_init_48 : decode cX4_init 48 = .ok (.putfield 25, 3) := by decide +kernel
theorem dX4_init_51 : decode cX4_init 51 = .ok (.aload_n 0, 1) := by decide +kernel
theorem dX4_init_52 : decode cX4_init 52 = .ok (.bipush 16, 2) := by decide +kernel
theorem dX4_init_54 : decode cX4_init 54 = .ok (.newarray .boolean, 2) := by decide +kernel
theorem dX4_init_56 : decode cX4_init 56 = .ok (.putfield 28, 3) := by decide +kernel
theorem dX4_init_59 : decode cX4_init 59 = .ok (.aload_n 0, 1) := by decide +kernel
theorem dX4_init_60 : decode cX4_init 60 = .ok (.sipush 365, 3) := by decide +kernel
theorem dX4_init_63 : decode cX4_init 63 = .ok (.newarray .boolean, 2) := by decide +kernel
theorem dX4_init_65 : decode cX4_init 65 = .ok (.putfield 32, 3) := by decide +kernel
theorem dX4_init_68 : decode cX4_init 68 = .ok (.aload_n 0, 1) := by decide +kernel
theorem dX4_init_69 : decode cX4_init 69 = .ok (.bipush 12, 2) := by decide +kernel
theorem dX4_init_71 : decode cX4_init 71 = .ok (.newarray .int, 2) := by decide +kernel
theorem dX4_init_73 : decode cX4_init 73 = .ok (.putfield 35, 3) := by decide +kernel
theorem dX4_init_76 : decode cX4_init 76 = .ok (.aload_n 0, 1) := by decide +kernel
theorem dX4_init_77 : decode cX4_init 77 = .ok (.bipush 80, 2) := by decide +kernel
theorem dX4_init_79 : decode cX4_init 79 = .ok (.newarray .int, 2) := by decide +kernel
theorem dX4_init_81 : decode cX4_init 81 = .ok (.putfield 38, 3) := by decide +kernel
theorem dX4_init_84 : decode cX4_init 84 = .ok (.aload_n 0, 1) := by decide +kernel
theorem dX4_init_85 : decode cX4_init 85 = .ok (.bipush 80, 2) := by decide +kernel
theorem dX4_init_87 : decode cX4_init 87 = .ok (.newarray .int, 2) := by decide +kernel
theorem dX4_init_89 : decode cX4_init 89 = .ok (.putfield 41, 3) := by decide +kernel
theorem dX4_init_92 : decode cX4_init 92 = .ok (.aload_n 0, 1) := by decide +kernel
theorem dX4_init_93 : decode cX4_init 93 = .ok (.bipush 80, 2) := by decide +kernel
theorem dX4_init_95 : decode cX4_init 95 = .ok (.newarray .int, 2) := by decide +kernel
theorem dX4_init_97 : decode cX4_init 97 = .ok (.putfield 44, 3) := by decide +kernel
theorem dX4_init_100 : decode cX4_init 100 = .ok (.aload_n 0, 1) := by decide +kernel
theorem dX4_init_101 : decode cX4_init 101 = .ok (.bipush 80, 2) := by decide +kernel
theorem dX4_init_103 : decode cX4_init 103 = .ok (.newarray .int, 2) := by decide +kernel
theorem dX4_init_105 : decode cX4_init 105 = .ok (.putfield 47, 3) := by decide +kernel
theorem dX4_init_108 : decode cX4_init 108 = .ok (.aload_n 0, 1) := by decide +kernel
theorem dX4_init_109 : decode cX4_init 109 = .ok (.bipush 80, 2) := by decide +kernel
theorem dX4_init_111 : decode cX4_init 111 = .ok (.newarray .boolean, 2) := by decide +kernel
theorem dX4_init_113 : decode cX4_init 113 = .ok (.putfield 50, 3) := by decide +kernel
theorem dX4_init_116 : decode cX4_init 116 = .ok (.iconst 0, 1) := by decide +kernel
theorem dX4_init_117 : decode cX4_init 117 = .ok (.istore_n 1, 1) := by decide +kernel
theorem dX4_init_118 : decode cX4_init 118 = .ok (.iload_n 1, 1) := by decide +kernel
theorem dX4_init_119 : decode cX4_init 119 = .ok (.iconst 4, 1) := by decide +kernel
theorem dX4_init_120 : decode cX4_init 120 = .ok (.if_icmp .ge 18, 3) := by decide +kernel
theorem dX4_init_123 : decode cX4_init 123 = .ok (.aload_n 0, 1) := by decide +kernel
theorem dX4_init_124 : decode cX4_init 124 = .ok (.getfield 7, 3) := by decide +kernel
theorem dX4_init_127 : decode cX4_init 127 = .ok (.iload_n 1, 1) := by decide +kernel
theorem dX4_init_128 : decode cX4_init 128 = .ok (.sipush 500, 3) := by decide +kernel
theorem dX4_init_131 : decode cX4_init 131 = .ok (.iastore, 1) := by decide +kernel
theorem dX4_init_132 : decode cX4_init 132 = .ok (.iinc 1 1, 3) := by decide +kernel
theorem dX4_init_135 : decode cX4_init 135 = .ok (.goto (-17), 3) := by decide +kernel
theorem dX4_init_138 : decode cX4_init 138 = .ok (.return_, 1) := by decide +kernel
theorem dX4_thrown_0 : decode cX4_thrown 0 = .ok (.aload_n 0, 1) := by decide +kernel
theorem dX4_thrown_1 : decode cX4_thrown 1 = .ok (.getfield 53, 3) := by decide +kernel
theorem dX4_thrown_4 : decode cX4_thrown 4 = .ok (.ireturn, 1) := by decide +kernel
theorem dX4_isIn_0 : decode cX4_isIn 0 = .ok (.iload_n 0, 1) := by decide +kernel
theorem dX4_isIn_1 : decode cX4_isIn 1 = .ok (.iload_n 1, 1) := by decide +kernel
theorem dX4_isIn_2 : decode cX4_isIn 2 = .ok (.if_icmp .lt 12, 3) := by decide +kernel
theorem dX4_isIn_5 : decode cX4_isIn 5 = .ok (.iload_n 0, 1) := by decide +kernel
theorem dX4_isIn_6 : decode cX4_isIn 6 = .ok (.iload_n 2, 1) := by decide +kernel
theorem dX4_isIn_7 : decode cX4_isIn 7 = .ok (.if_icmp .gt 7, 3) := by decide +kernel
theorem dX4_isIn_10 : decode cX4_isIn 10 = .ok (.iconst 1, 1) := by decide +kernel
theorem dX4_isIn_11 : decode cX4_isIn 11 = .ok (.goto 4, 3) := by decide +kernel
theorem dX4_isIn_14 : decode cX4_isIn 14 = .ok (.iconst 0, 1) := by decide +kernel
theorem dX4_isIn_15 : decode cX4_isIn 15 = .ok (.ireturn, 1) := by decide +kernel
set_option maxRecDepth 20000 in
theorem ggX4_setBase_X4_isIn : GoodIn wsX4_setBase wsX4_isIn := goodIn_r _ [6] (by decide +kernel) (by decide +kernel)
set_option maxRecDepth 20000 in
theorem gX4_setBase_X4_isIn : GoodIn wsX4_setBase (va_wsS RX4 57 yX4_isIn wsX4_isIn) := goodIn_app (goodIn_of _ (by decide +kernel)) ggX4_setBase_X4_isIn
theorem dX4_setBase_0 : decode cX4_setBase 0 = .ok (.aload_n 0, 1) := by decide +kernel
theorem dX4_setBase_1 : decode cX4_setBase 1 = .ok (.iload_n 1, 1) := by decide +kernel
theorem dX4_setBase_2 : decode cX4_setBase 2 = .ok (.iconst 0, 1) := by decide +kernel
theorem dX4_setBase_3 : decode cX4_setBase 3 = .ok (.iconst 3, 1) := by decide +kernel
theorem dX4_setBase_4 : decode cX4_setBase 4 = .ok (.invokestatic 57, 3) := by decide +kernel
theorem dX4_setBase_7 : decode cX4_setBase 7 = .ok (.ifCond .eq 18, 3) := by decide +kernel
theorem dX4_setBase_10 : decode cX4_setBase 10 = .ok (.iload_n 2, 1) := by decide +kernel
theorem dX4_setBase_11 : decode cX4_setBase 11 = .ok (.iconst 1, 1) := by decide +kernel
theorem dX4_setBase_12 : decode cX4_setBase 12 = .ok (.sipush 10000, 3) := by decide +kernel
theorem dX4_setBase_15 : decode cX4_setBase 15 = .ok (.invokestatic 57, 3) := by decide +kernel
theorem dX4_setBase_18 : decode cX4_setBase 18 = .ok (.ifCond .eq 7, 3) := by decide +kernel
theorem dX4_setBase_21 : decode cX4_setBase 21 = .ok (.iconst 0, 1) := by decide +kernel
theorem dX4_setBase_22 : decode cX4_setBase 22 = .ok (.goto 4, 3) := by decide +kernel
theorem dX4_setBase_25 : decode cX4_setBase 25 = .ok (.iconst 1, 1) := by decide +kernel
theorem dX4_setBase_26 : decode cX4_setBase 26 = .ok (.putfield 53, 3) := by decide +kernel
theorem dX4_setBase_29 : decode cX4_setBase 29 = .ok (.aload_n 0, 1) := by decide +kernel
theorem dX4_setBase_30 : decode cX4_setBase 30 = .ok (.getfield 53, 3) := by decide +kernel
theorem dX4_setBase_33 : decode cX4_setBase 33 = .ok (.ifCond .le 5, 3) := by decide +kernel
theorem dX4_setBase_36 : decode cX4_setBase 36 = .ok (.iconst 0, 1) := by decide +kernel
theorem dX4_setBase_37 : decode cX4_setBase 37 = .ok (.ireturn, 1) := by decide +kernel
theorem dX4_setBase_38 : decode cX4_setBase 38 = .ok (.aload_n 0, 1) := by decide +kernel
theorem dX4_setBase_39 : decode cX4_setBase 39 = .ok (.getfield 7, 3) := by decide +kernel
theorem dX4_setBase_42 : decode cX4_setBase 42 = .ok (.iload_n 1, 1) := by decide +kernel
theorem dX4_setBase_43 : decode cX4_setBase 43 = .ok (.iaload, 1) := by decide +kernel
theorem dX4_setBase_44 : decode cX4_setBase 44 = .ok (.istore_n 3, 1) := by decide +kernel
theorem dX4_setBase_45 : decode cX4_setBase 45 = .ok (.aload_n 0, 1) := by decide +kernel
theorem dX4_setBase_46 : decode cX4_setBase 46 = .ok (.getfield 7, 3) := by decide +kernel
theorem dX4_setBase_49 : decode cX4_setBase 49 = .ok (.iload_n 1, 1) := by decide +kernel
theorem dX4_setBase_50 : decode cX4_setBase 50 = .ok (.iload_n 2, 1) := by decide +kernel
theorem dX4_setBase_51 : decode cX4_setBase 51 = .ok (.iastore, 1) := by decide +kernel
theorem dX4_setBase_52 : decode cX4_setBase 52 = .ok (.iload_n 3, 1) := by decide +kernel
theorem dX4_setBase_53 : decode cX4_setBase 53 = .ok (.ireturn, 1) := by decide +kernel
set_option maxRecDepth 20000 in
theorem ggX4_addRule_X4_isIn : GoodIn wsX4_addRule wsX4_isIn := goodIn_r _ [11] (by decide +kernel) (by decide +kernel)
set_option maxRecDepth 20000 in
theorem gX4_addRule_X4_isIn : GoodIn wsX4_addRule (va_wsS RX4 57 yX4_isIn wsX4_isIn) := goodIn_app (goodIn_of _ (by decide +kernel)) ggX4_addRule_X4_isIn
theorem dX4_addRule_0 : decode cX4_addRule 0 = .ok (.iload_n 1, 1) := by decide +kernel
theorem dX4_addRule_1 : decode cX4_addRule 1 = .ok (.iconst 0, 1) := by decide +kernel
theorem dX4_addRule_2 : decode cX4_addRule 2 = .ok (.bipush 127, 2) := by decide +kernel
theorem dX4_addRule_4 : decode cX4_addRule 4 = .ok (.invokestatic 57, 3) := by decide +kernel
theorem dX4_addRule_7 : decode cX4_addRule 7 = .ok (.ifCond .eq 53, 3) := by decide +kernel
theorem dX4_addRule_10 : decode cX4_addRule 10 = .ok (.iload_n 2, 1) := by decide +kernel
theorem dX4_addRule_11 : decode cX4_addRule 11 = .ok (.iconst 0, 1) := by decide +kernel
theorem dX4_addRule_12 : decode cX4_addRule 12 = .ok (.bipush 95, 2) := by decide +kernel
theorem dX4_addRule_14 : decode cX4_addRule 14 = .ok (.invokestatic 57, 3) := by decide +kernel
theorem dX4_addRule_17 : decode cX4_addRule 17 = .ok (.ifCond .eq 43, 3) := by decide +kernel
theorem dX4_addRule_20 : decode cX4_addRule 20 = .ok (.iload_n 3, 1) := by decide +kernel
theorem dX4_addRule_21 : decode cX4_addRule 21 = .ok (.iload_n 2, 1) := by decide +kernel
theorem dX4_addRule_22 : decode cX4_addRule 22 = .ok (.iconst 1, 1) := by decide +kernel
theorem dX4_addRule_23 : decode cX4_addRule 23 = .ok (.iadd, 1) := by decide +kernel
theorem dX4_addRule_24 : decode cX4_addRule 24 = .ok (.bipush 96, 2) := by decide +kernel
theorem dX4_addRule_26 : decode cX4_addRule 26 = .ok (.invokestatic 57, 3) := by decide +kernel
theorem dX4_addRule_29 : decode cX4_addRule 29 = .ok (.ifCond .eq 31, 3) := by decide +kernel
theorem dX4_addRule_32 : decode cX4_addRule 32 = .ok (.iload 4, 2) := by decide +kernel
theorem dX4_addRule_34 : decode cX4_addRule 34 = .ok (.iconst 1, 1) := by decide +kernel
theorem dX4_addRule_35 : decode cX4_addRule 35 = .ok (.bipush 15, 2) := by decide +kernel
theorem dX4_addRule_37 : decode cX4_addRule 37 = .ok (.invokestatic 57, 3) := by decide +kernel
theorem dX4_addRule_40 : decode cX4_addRule 40 = .ok (.ifCond .eq 20, 3) := by decide +kernel
theorem dX4_addRule_43 : decode cX4_addRule 43 = .ok (.iload 5, 2) := by decide +kernel
theorem dX4_addRule_45 : decode cX4_addRule 45 = .ok (.bipush 100, 2) := by decide +kernel
theorem dX4_addRule_47 : decode cX4_addRule 47 = .ok (.sipush 400, 3) := by decide +kernel
theorem dX4_addRule_50 : decode cX4_addRule 50 = .ok (.invokestatic 57, 3) := by decide +kernel
theorem dX4_addRule_53 : decode cX4_addRule 53 = .ok (.ifCond .eq 7, 3) := by decide +kernel
theorem dX4_addRule_56 : decode cX4_addRule 56 = .ok (.iconst 1, 1) := by decide +kernel
theorem dX4_addRule_57 : decode cX4_addRule 57 = .ok (.goto 4, 3) := by decide +kernel
theorem dX4_addRule_60 : decode cX4_addRule 60 = .ok (.iconst 0, 1) := by decide +kernel
theorem dX4_addRule_61 : decode cX4_addRule 61 = .ok (.istore 6, 2) := by decide +kernel
theorem dX4_addRule_63 : decode cX4_addRule 63 = .ok (.aload_n 0, 1) := by decide +kernel
theorem dX4_addRule_64 : decode cX4_addRule 64 = .ok (.iload 6, 2) := by decide +kernel
theorem dX4_addRule_66 : decode cX4_addRule 66 = .ok (.ifCond .ne 7, 3) := by decide +kernel
theorem dX4_addRule_69 : decode cX4_addRule 69 = .ok (.iconst 1, 1) := by decide +kernel
theorem dX4_addRule_70 : decode cX4_addRule 70 = .ok (.goto 17, 3) := by decide +kernel
theorem dX4_addRule_73 : decode cX4_addRule 73 = .ok (.aload_n 0, 1) := by decide +kernel
theorem dX4_addRule_74 : decode cX4_addRule 74 = .ok (.getfield 61, 3) := by decide +kernel
theorem dX4_addRule_77 : decode cX4_addRule 77 = .ok (.bipush 16, 2) := by decide +kernel
theorem dX4_addRule_79 : decode cX4_addRule 79 = .ok (.if_icmp .ne 7, 3) := by decide +kernel
theorem dX4_addRule_82 : decode cX4_addRule 82 = .ok (.iconst 2, 1) := by decide +kernel
theorem dX4_addRule_83 : decode cX4_addRule 83 = .ok (.goto 4, 3) := by decide +kernel
theorem dX4_addRule_86 : decode cX4_addRule 86 = .ok (.iconst 0, 1) := by decide +kernel
theorem dX4_addRule_87 : decode cX4_addRule 87 = .ok (.putfield 53, 3) := by decide +kernel
theorem dX4_addRule_90 : decode cX4_addRule 90 = .ok (.aload_n 0, 1) := by decide +kernel
theorem dX4_addRule_91 : decode cX4_addRule 91 = .ok (.getfield 53, 3) := by decide +kernel
theorem dX4_addRule_94 : decode cX4_addRule 94 = .ok (.ifCond .le 5, 3) := by decide +kernel
theorem dX4_addRule_97 : decode cX4_addRule 97 = .ok (.iconst 0, 1) := by decide +kernel
theorem dX4_addRule_98 : decode cX4_addRule 98 = .ok (.ireturn, 1) := by decide +kernel
theorem dX4_addRule_99 : decode cX4_addRule 99 = .ok (.aload_n 0, 1) := by decide +kernel
theorem dX4_addRule_100 : decode cX4_addRule 100 = .ok (.getfield 13, 3) := by decide +kernel
theorem dX4_addRule_103 : decode cX4_addRule 103 = .ok (.aload_n 0, 1) := by decide +kernel
theorem dX4_addRule_104 : decode cX4_addRule 104 = .ok (.getfield 61, 3) := by decide +kernel
theorem dX4_addRule_107 : decode cX4_addRule 107 = .ok (.iload_n 1, 1) := by decide +kernel
theorem dX4_addRule_108 : decode cX4_addRule 108 = .ok (.iastore, 1) := by decide +kernel
theorem dX4_addRule_109 : decode cX4_addRule 109 = .ok (.aload_n 0, 1) := by decide +kernel
theorem dX4_addRule_110 : decode cX4_addRule 110 = .ok (.getfield 16, 3) := by decide +kernel
theorem dX4_addRule_113 : decode cX4_addRule 113 = .ok (.aload_n 0, 1) := by decide +kernel
theorem dX4_addRule_114 : decode cX4_addRule 114 = .ok (.getfield 61, 3) := by decide +kernel
theorem dX4_addRule_117 : decode cX4_addRule 117 = .ok (.iload_n 2, 1) := by decide +kernel
theorem dX4_addRule_118 : decode cX4_addRule 118 = .ok (.iastore, 1) := by decide +kernel
theorem dX4_addRule_119 : decode cX4_addRule 119 = .ok (.aload_n 0, 1) := by decide +kernel
theorem dX4_addRule_120 : decode cX4_addRule 120 = .ok (.getfield 19, 3) := by decide +kernel
theorem dX4_addRule_123 : decode cX4_addRule 123 = .ok (.aload_n 0, 1) := by decide +kernel
theorem dX4_addRule_124 : decode cX4_addRule 124 = .ok (.getfield 61, 3) := by decide +kernel
theorem dX4_addRule_127 : decode cX4_addRule 127 = .ok (.iload_n 3, 1) := by decide +kernel
theorem dX4_addRule_128 : decode cX4_addRule 128 = .ok (.iastore, 1) := by decide +kernel
theorem dX4_addRule_129 : decode cX4_addRule 129 = .ok (.aload_n 0, 1) := by decide +kernel
theorem dX4_addRule_130 : decode cX4_addRule 130 = .ok (.getfield 22, 3) := by decide +kernel
theorem dX4_addRule_133 : decode cX4_addRule 133 = .ok (.aload_n 0, 1) := by decide +kernel
theorem dX4_addRule_134 : decode cX4_addRule 134 = .ok (.getfield 61, 3) := by decide +kernel
theorem dX4_addRule_137 : decode cX4_addRule 137 = .ok (.iload 4, 2) := by decide +kernel
theorem dX4_addRule_139 : decode cX4_addRule 139 = .ok (.iastore, 1) := by decide +kernel
theorem dX4_addRule_140 : decode cX4_addRule 140 = .ok (.aload_n 0, 1) := by decide +kernel
theorem dX4_addRule_141 : decode cX4_addRule 141 = .ok (.getfield 25, 3) := by decide +kernel
theorem dX4_addRule_144 : decode cX4_addRule 144 = .ok (.aload_n 0, 1) := by decide +kernel
theorem dX4_addRule_145 : decode cX4_addRule 145 = .ok (.getfield 61, 3) := by decide +kernel
theorem dX4_addRule_148 : decode cX4_addRule 148 = .ok (.iload 5, 2) := by decide +kernel
theorem dX4_addRule_150 : decode cX4_addRule 150 = .ok (.iastore, 1) := by decide +kernel
theorem dX4_addRule_151 : decode cX4_addRule 151 = .ok (.aload_n 0, 1) := by decide +kernel
theorem dX4_addRule_152 : decode cX4_addRule 152 = .ok (.dup, 1) := by decide +kernel
theorem dX4_addRule_153 : decode cX4_addRule 153 = .ok (.getfield 61, 3) := by decide +kernel
theorem dX4_addRule_156 : decode cX4_addRule 156 = .ok (.iconst 1, 1) := by decide +kernel
theorem dX4_addRule_157 : decode cX4_addRule 157 = .ok (.iadd, 1) := by decide +kernel
theorem dX4_addRule_158 : decode cX4_addRule 158 = .ok (.putfield 61, 3) := by decide +kernel
theorem dX4_addRule_161 : decode cX4_addRule 161 = .ok (.aload_n 0, 1) := by decide +kernel
theorem dX4_addRule_162 : decode cX4_addRule 162 = .ok (.getfield 61, 3) := by decide +kernel
theorem dX4_addRule_165 : decode cX4_addRule 165 = .ok (.iconst 1, 1) := by decide +kernel
theorem dX4_addRule_166 : decode cX4_addRule 166 = .ok (.isub, 1) := by decide +kernel
theorem dX4_addRule_167 : decode cX4_addRule 167 = .ok (.ireturn, 1) := by decide +kernel
set_option maxRecDepth 20000 in
theorem ggX4_setRule_X4_isIn : GoodIn wsX4_setRule wsX4_isIn := goodIn_r _ [7] (by decide +kernel) (by decide +kernel)
set_option maxRecDepth 20000 in
theorem gX4_setRule_X4_isIn : GoodIn wsX4_setRule (va_wsS RX4 57 yX4_isIn wsX4_isIn) := goodIn_app (goodIn_of _ (by decide +kernel)) ggX4_setRule_X4_isIn
theorem dX4_setRule_0 : decode cX4_setRule 0 = .ok (.aload_n 0, 1) := by decide +kernel
theorem dX4_setRule_1 : decode cX4_setRule 1 = .ok (.iload_n 1, 1) := by decide +kernel
theorem dX4_setRule_2 : decode cX4_setRule 2 = .ok (.iconst 0, 1) := by decide +kernel
theorem dX4_setRule_3 : decode cX4_setRule 3 = .ok (.aload_n 0, 1) := by decide +kernel
theorem dX4_setRule_4 : decode cX4_setRule 4 = .ok (.getfield 61, 3) := by decide +kernel
theorem dX4_setRule_7 : decode cX4_setRule 7 = .ok (.iconst 1, 1) := by decide +kernel
theorem dX4_setRule_8 : decode cX4_setRule 8 = .ok (.isub, 1) := by decide +kernel
theorem dX4_setRule_9 : decode cX4_setRule 9 = .ok (.invokestatic 57, 3) := by decide +kernel
theorem dX4_setRule_12 : decode cX4_setRule 12 = .ok (.ifCond .eq 7, 3) := by decide +kernel
theorem dX4_setRule_15 : decode cX4_setRule 15 = .ok (.iconst 0, 1) := by decide +kernel
theorem dX4_setRule_16 : decode cX4_setRule 16 = .ok (.goto 4, 3) := by decide +kernel
theorem dX4_setRule_19 : decode cX4_setRule 19 = .ok (.iconst 1, 1) := by decide +kernel
theorem dX4_setRule_20 : decode cX4_setRule 20 = .ok (.putfield 53, 3) := by decide +kernel
theorem dX4_setRule_23 : decode cX4_setRule 23 = .ok (.aload_n 0, 1) := by decide +kernel
theorem dX4_setRule_24 : decode cX4_setRule 24 = .ok (.getfield 53, 3) := by decide +kernel
theorem dX4_setRule_27 : decode cX4_setRule 27 = .ok (.ifCond .le 5, 3) := by decide +kernel
theorem dX4_setRule_30 : decode cX4_setRule 30 = .ok (.iconst 0, 1) := by decide +kernel
theorem dX4_setRule_31 : decode cX4_setRule 31 = .ok (.ireturn, 1) := by decide +kernel
theorem dX4_setRule_32 : decode cX4_setRule 32 = .ok (.aload_n 0, 1) := by decide +kernel
theorem dX4_setRule_33 : decode cX4_setRule 33 = .ok (.getfield 28, 3) := by decide +kernel
theorem dX4_setRule_36 : decode cX4_setRule 36 = .ok (.iload_n 1, 1) := by decide +kernel
theorem dX4_setRule_37 : decode cX4_setRule 37 = .ok (.baload, 1) := by decide +kernel
theorem dX4_setRule_38 : decode cX4_setRule 38 = .ok (.ifCond .ne 7, 3) := by decide +kernel
theorem dX4_setRule_41 : decode cX4_setRule 41 = .ok (.iconst 1, 1) := by decide +kernel
theorem dX4_setRule_42 : decode cX4_setRule 42 = .ok (.goto 4, 3) := by decide +kernel
theorem dX4_setRule_45 : decode cX4_setRule 45 = .ok (.iconst 0, 1) := by decide +kernel
theorem dX4_setRule_46 : decode cX4_setRule 46 = .ok (.istore_n 3, 1) := by decide +kernel
theorem dX4_setRule_47 : decode cX4_setRule 47 = .ok (.aload_n 0, 1) := by decide +kernel
theorem dX4_setRule_48 : decode cX4_setRule 48 = .ok (.getfield 28, 3) := by decide +kernel
theorem dX4_setRule_51 : decode cX4_setRule 51 = .ok (.iload_n 1, 1) := by decide +kernel
theorem dX4_setRule_52 : decode cX4_setRule 52 = .ok (.iload_n 2, 1) := by decide +kernel
theorem dX4_setRule_53 : decode cX4_setRule 53 = .ok (.ifCond .ne 7, 3) := by decide +kernel
theorem dX4_setRule_56 : decode cX4_setRule 56 = .ok (.iconst 1, 1) := by decide +kernel
theorem dX4_setRule_57 : decode cX4_setRule 57 = .ok (.goto 4, 3) := by decide +kernel
theorem dX4_setRule_60 : decode cX4_setRule 60 = .ok (.iconst 0, 1) := by decide +kernel
theorem dX4_setRule_61 : decode cX4_setRule 61 = .ok (.bastore, 1) := by decide +kernel
theorem dX4_setRule_62 : decode cX4_setRule 62 = .ok (.iload_n 3, 1) := by decide +kernel
theorem dX4_setRule_63 : decode cX4_setRule 63 = .ok (.ireturn, 1) := by decide +kernel
set_option maxRecDepth 20000 in
theorem ggX4_setHoliday_X4_isIn : GoodIn wsX4_setHoliday wsX4_isIn := goodIn_r _ [6] (by decide +kernel) (by decide +kernel)
set_option maxRecDepth 20000 in
theorem gX4_setHoliday_X4_isIn : GoodIn wsX4_setHoliday (va_wsS RX4 57 yX4_isIn wsX4_isIn) := goodIn_app (goodIn_of _ (by decide +kernel)) ggX4_setHoliday_X4_isIn
theorem dX4_setHoliday_0 : decode cX4_setHoliday 0 = .ok (.aload_n 0, 1) := by decide +kernel
theorem dX4_setHoliday_1 : decode cX4_setHoliday 1 = .ok (.iload_n 1, 1) := by decide +kernel
theorem dX4_setHoliday_2 : decode cX4_setHoliday 2 = .ok (.iconst 0, 1) := by decide +kernel
theorem dX4_setHoliday_3 : decode cX4_setHoliday 3 = .ok (.sipush 363, 3) := by decide +kernel
theorem dX4_setHoliday_6 : decode cX4_setHoliday 6 = .ok (.invokestatic 57, 3) := by decide +kernel
theorem dX4_setHoliday_9 : decode cX4_setHoliday 9 = .ok (.ifCond .eq 7, 3) := by decide +kernel
theorem dX4_setHoliday_12 : decode cX4_setHoliday 12 = .ok (.iconst 0, 1) := by decide +kernel
theorem dX4_setHoliday_13 : decode cX4_setHoliday 13 = .ok (.goto 4, 3) := by decide +kernel
theorem dX4_setHoliday_16 : decode cX4_setHoliday 16 = .ok (.iconst 1, 1) := by decide +kernel
theorem dX4_setHoliday_17 : decode cX4_setHoliday 17 = .ok (.putfield 53, 3) := by decide +kernel
theorem dX4_setHoliday_20 : decode cX4_setHoliday 20 = .ok (.aload_n 0, 1) := by decide +kernel
theorem dX4_setHoliday_21 : decode cX4_setHoliday 21 = .ok (.getfield 53, 3) := by decide +kernel
theorem dX4_setHoliday_24 : decode cX4_setHoliday 24 = .ok (.ifCond .le 5, 3) := by decide +kernel
theorem dX4_setHoliday_27 : decode cX4_setHoliday 27 = .ok (.iconst 0, 1) := by decide +kernel
theorem dX4_setHoliday_28 : decode cX4_setHoliday 28 = .ok (.ireturn, 1) := by decide +kernel
theorem dX4_setHoliday_29 : decode cX4_setHoliday 29 = .ok (.aload_n 0, 1) := by decide +kernel
theorem dX4_setHoliday_30 : decode cX4_setHoliday 30 = .ok (.getfield 32, 3) := by decide +kernel
theorem dX4_setHoliday_33 : decode cX4_setHoliday 33 = .ok (.iload_n 1, 1) := by decide +kernel
theorem dX4_setHoliday_34 : decode cX4_setHoliday 34 = .ok (.baload, 1) := by decide +kernel
theorem dX4_setHoliday_35 : decode cX4_setHoliday 35 = .ok (.istore_n 3, 1) := by decide +kernel
theorem dX4_setHoliday_36 : decode cX4_setHoliday 36 = .ok (.aload_n 0, 1) := by decide +kernel
theorem dX4_setHoliday_37 : decode cX4_setHoliday 37 = .ok (.getfield 32, 3) := by decide +kernel
theorem dX4_setHoliday_40 : decode cX4_setHoliday 40 = .ok (.iload_n 1, 1) := by decide +kernel
theorem dX4_setHoliday_41 : decode cX4_setHoliday 41 = .ok (.iload_n 2, 1) := by decide +kernel
theorem dX4_setHoliday_42 : decode cX4_setHoliday 42 = .ok (.bastore, 1) := by decide +kernel
theorem dX4_setHoliday_43 : decode cX4_setHoliday 43 = .ok (.iload_n 3, 1) := by decide +kernel
theorem dX4_setHoliday_44 : decode cX4_setHoliday 44 = .ok (.ireturn, 1) := by decide +kernel
theorem dX4_applies_0 : decode cX4_applies 0 = .ok (.iload_n 2, 1) := by decide +kernel
theorem dX4_applies_1 : decode cX4_applies 1 = .ok (.bipush 96, 2) := by decide +kernel
theorem dX4_applies_3 : decode cX4_applies 3 = .ok (.idiv, 1) := by decide +kernel
theorem dX4_applies_4 : decode cX4_applies 4 = .ok (.istore 4, 2) := by decide +kernel
theorem dX4_applies_6 : decode cX4_applies 6 = .ok (.iload_n 2, 1) := by decide +kernel
theorem dX4_applies_7 : decode cX4_applies 7 = .ok (.bipush 96, 2) := by decide +kernel
theorem dX4_applies_9 : decode cX4_applies 9 = .ok (.irem, 1) := by decide +kernel
theorem dX4_applies_10 : decode cX4_applies 10 = .ok (.istore 5, 2) := by decide +kernel
theorem dX4_applies_12 : decode cX4_applies 12 = .ok (.aload_n 0, 1) := by decide +kernel
theorem dX4_applies_13 : decode cX4_applies 13 = .ok (.getfield 13, 3) := by decide +kernel
theorem dX4_applies_16 : decode cX4_applies 16 = .ok (.iload_n 1, 1) := by decide +kernel
theorem dX4_applies_17 : decode cX4_applies 17 = .ok (.iaload, 1) := by decide +kernel
theorem dX4_applies_18 : decode cX4_applies 18 = .ok (.ifCond .ne 13, 3) := by decide +kernel
theorem dX4_applies_21 : decode cX4_applies 21 = .ok (.aload_n 0, 1) := by decide +kernel
theorem dX4_applies_22 : decode cX4_applies 22 = .ok (.getfield 32, 3) := by decide +kernel
theorem dX4_applies_25 : decode cX4_applies 25 = .ok (.iload 4, 2) := by decide +kernel
theorem dX4_applies_27 : decode cX4_applies 27 = .ok (.baload, 1) := by decide +kernel
theorem dX4_applies_28 : decode cX4_applies 28 = .ok (.goto 26, 3) := by decide +kernel
theorem dX4_applies_31 : decode cX4_applies 31 = .ok (.aload_n 0, 1) := by decide +kernel
theorem dX4_applies_32 : decode cX4_applies 32 = .ok (.getfield 13, 3) := by decide +kernel
theorem dX4_applies_35 : decode cX4_applies 35 = .ok (.iload_n 1, 1) := by decide +kernel
theorem dX4_applies_36 : decode cX4_applies 36 = .ok (.iaload, 1) := by decide +kernel
theorem dX4_applies_37 : decode cX4_applies 37 = .ok (.iload 4, 2) := by decide +kernel
theorem dX4_applies_39 : decode cX4_applies 39 = .ok (.bipush 7, 2) := by decide +kernel
theorem dX4_applies_41 : decode cX4_applies 41 = .ok (.irem, 1) := by decide +kernel
theorem dX4_applies_42 : decode cX4_applies 42 = .ok (.ishr, 1) := by decide +kernel
theorem dX4_applies_43 : decode cX4_applies 43 = .ok (.iconst 1, 1) := by decide +kernel
theorem dX4_applies_44 : decode cX4_applies 44 = .ok (.iand, 1) := by decide +kernel
theorem dX4_applies_45 : decode cX4_applies 45 = .ok (.iconst 1, 1) := by decide +kernel
theorem dX4_applies_46 : decode cX4_applies 46 = .ok (.if_icmp .ne 7, 3) := by decide +kernel
theorem dX4_applies_49 : decode cX4_applies 49 = .ok (.iconst 1, 1) := by decide +kernel
theorem dX4_applies_50 : decode cX4_applies 50 = .ok (.goto 4, 3) := by decide +kernel
theorem dX4_applies_53 : decode cX4_applies 53 = .ok (.iconst 0, 1) := by decide +kernel
theorem dX4_applies_54 : decode cX4_applies 54 = .ok (.istore 6, 2) := by decide +kernel
theorem dX4_applies_56 : decode cX4_applies 56 = .ok (.iload 6, 2) := by decide +kernel
theorem dX4_applies_58 : decode cX4_applies 58 = .ok (.ifCond .eq 52, 3) := by decide +kernel
theorem dX4_applies_61 : decode cX4_applies 61 = .ok (.aload_n 0, 1) := by decide +kernel
theorem dX4_applies_62 : decode cX4_applies 62 = .ok (.getfield 28, 3) := by decide +kernel
theorem dX4_applies_65 : decode cX4_applies 65 = .ok (.iload_n 1, 1) := by decide +kernel
theorem dX4_applies_66 : decode cX4_applies 66 = .ok (.baload, 1) := by decide +kernel
theorem dX4_applies_67 : decode cX4_applies 67 = .ok (.ifCond .ne 43, 3) := by decide +kernel
theorem dX4_applies_70 : decode cX4_applies 70 = .ok (.aload_n 0, 1) := by decide +kernel
theorem dX4_applies_71 : decode cX4_applies 71 = .ok (.getfield 22, 3) := by decide +kernel
theorem dX4_applies_74 : decode cX4_applies 74 = .ok (.iload_n 1, 1) := by decide +kernel
theorem dX4_applies_75 : decode cX4_applies 75 = .ok (.iaload, 1) := by decide +kernel
theorem dX4_applies_76 : decode cX4_applies 76 = .ok (.iload_n 3, 1) := by decide +kernel
theorem dX4_applies_77 : decode cX4_applies 77 = .ok (.ishr, 1) := by decide +kernel
theorem dX4_applies_78 : decode cX4_applies 78 = .ok (.iconst 1, 1) := by decide +kernel
theorem dX4_applies_79 : decode cX4_applies 79 = .ok (.iand, 1) := by decide +kernel
theorem dX4_applies_80 : decode cX4_applies 80 = .ok (.iconst 1, 1) := by decide +kernel
theorem dX4_applies_81 : decode cX4_applies 81 = .ok (.if_icmp .ne 29, 3) := by decide +kernel
theorem dX4_applies_84 : decode cX4_applies 84 = .ok (.iload 5, 2) := by decide +kernel
theorem dX4_applies_86 : decode cX4_applies 86 = .ok (.aload_n 0, 1) := by decide +kernel
theorem dX4_applies_87 : decode cX4_applies 87 = .ok (.getfield 16, 3) := by decide +kernel
theorem dX4_applies_90 : decode cX4_applies 90 = .ok (.iload_n 1, 1) := by decide +kernel
theorem dX4_applies_91 : decode cX4_applies 91 = .ok (.iaload, 1) := by decide +kernel
theorem dX4_applies_92 : decode cX4_applies 92 = .ok (.if_icmp .lt 18, 3) := by decide +kernel
theorem dX4_applies_95 : decode cX4_applies 95 = .ok (.iload 5, 2) := by decide +kernel
theorem dX4_applies_97 : decode cX4_applies 97 = .ok (.aload_n 0, 1) := by decide +kernel
theorem dX4_applies_98 : decode cX4_applies 98 = .ok (.getfield 19, 3) := by decide +kernel
theorem dX4_applies_101 : decode cX4_applies 101 = .ok (.iload_n 1, 1) := by decide +kernel
theorem dX4_applies_102 : decode cX4_applies 102 = .ok (.iaload, 1) := by decide +kernel
theorem dX4_applies_103 : decode cX4_applies 103 = .ok (.if_icmp .ge 7, 3) := by decide +kernel
theorem dX4_applies_106 : decode cX4_applies 106 = .ok (.iconst 1, 1) := by decide +kernel
theorem dX4_applies_107 : decode cX4_applies 107 = .ok (.goto 4, 3) := by decide +kernel
theorem dX4_applies_110 : decode cX4_applies 110 = .ok (.iconst 0, 1) := by decide +kernel
theorem dX4_applies_111 : decode cX4_applies 111 = .ok (.ireturn, 1) := by decide +kernel
set_option maxRecDepth 20000 in
theorem ggX4_isWorker_X4_isIn : GoodIn wsX4_isWorker wsX4_isIn := goodIn_r _ [5] (by decide +kernel) (by decide +kernel)
set_option maxRecDepth 20000 in
theorem gX4_isWorker_X4_isIn : GoodIn wsX4_isWorker (va_wsS RX4 57 yX4_isIn wsX4_isIn) := goodIn_app (goodIn_of _ (by decide +kernel)) ggX4_isWorker_X4_isIn
theorem dX4_isWorker_0 : decode cX4_isWorker 0 = .ok (.iload_n 1, 1) := by decide +kernel
theorem dX4_isWorker_1 : decode cX4_isWorker 1 = .ok (.iconst 0, 1) := by decide +kernel
theorem dX4_isWorker_2 : decode cX4_isWorker 2 = .ok (.aload_n 0, 1) := by decide +kernel
theorem dX4_isWorker_3 : decode cX4_isWorker 3 = .ok (.getfield 64, 3) := by decide +kernel
theorem dX4_isWorker_6 : decode cX4_isWorker 6 = .ok (.iconst 1, 1) := by decide +kernel
theorem dX4_isWorker_7 : decode cX4_isWorker 7 = .ok (.isub, 1) := by decide +kernel
theorem dX4_isWorker_8 : decode cX4_isWorker 8 = .ok (.invokestatic 57, 3) := by decide +kernel
theorem dX4_isWorker_11 : decode cX4_isWorker 11 = .ok (.ireturn, 1) := by decide +kernel
set_option maxRecDepth 20000 in
theorem ggX4_isShift_X4_isIn : GoodIn wsX4_isShift wsX4_isIn := goodIn_r _ [6] (by decide +kernel) (by decide +kernel)
set_option maxRecDepth 20000 in
theorem gX4_isShift_X4_isIn : GoodIn wsX4_isShift (va_wsS RX4 57 yX4_isIn wsX4_isIn) := goodIn_app (goodIn_of _ (by decide +kernel)) ggX4_isShift_X4_isIn
theorem dX4_isShift_0 : decode cX4_isShift 0 = .ok (.aload_n 0, 1) := by decide +kernel
theorem dX4_isShift_1 : decode cX4_isShift 1 = .ok (.iload_n 1, 1) := by decide +kernel
theorem dX4_isShift_2 : decode cX4_isShift 2 = .ok (.iconst 0, 1) := by decide +kernel
theorem dX4_isShift_3 : decode cX4_isShift 3 = .ok (.aload_n 0, 1) := by decide +kernel
theorem dX4_isShift_4 : decode cX4_isShift 4 = .ok (.getfield 67, 3) := by decide +kernel
theorem dX4_isShift_7 : decode cX4_isShift 7 = .ok (.iconst 1, 1) := by decide +kernel
theorem dX4_isShift_8 : decode cX4_isShift 8 = .ok (.isub, 1) := by decide +kernel
theorem dX4_isShift_9 : decode cX4_isShift 9 = .ok (.invokestatic 57, 3) := by decide +kernel
theorem dX4_isShift_12 : decode cX4_isShift 12 = .ok (.ifCond .eq 7, 3) := by decide +kernel
theorem dX4_isShift_15 : decode cX4_isShift 15 = .ok (.iconst 0, 1) := by decide +kernel
theorem dX4_isShift_16 : decode cX4_isShift 16 = .ok (.goto 4, 3) := by decide +kernel
theorem dX4_isShift_19 : decode cX4_isShift 19 = .ok (.iconst 1, 1) := by decide +kernel
theorem dX4_isShift_20 : decode cX4_isShift 20 = .ok (.putfield 53, 3) := by decide +kernel
theorem dX4_isShift_23 : decode cX4_isShift 23 = .ok (.aload_n 0, 1) := by decide +kernel
theorem dX4_isShift_24 : decode cX4_isShift 24 = .ok (.getfield 53, 3) := by decide +kernel
theorem dX4_isShift_27 : decode cX4_isShift 27 = .ok (.ifCond .ne 7, 3) := by decide +kernel
theorem dX4_isShift_30 : decode cX4_isShift 30 = .ok (.iconst 1, 1) := by decide +kernel
theorem dX4_isShift_31 : decode cX4_isShift 31 = .ok (.goto 4, 3) := by decide +kernel
theorem dX4_isShift_34 : decode cX4_isShift 34 = .ok (.iconst 0, 1) := by decide +kernel
theorem dX4_isShift_35 : decode cX4_isShift 35 = .ok (.ireturn, 1) := by decide +kernel
set_option maxRecDepth 20000 in
theorem ggX4_addWorker_X4_isIn : GoodIn wsX4_addWorker wsX4_isIn := goodIn_r _ [7] (by decide +kernel) (by decide +kernel)
set_option maxRecDepth 20000 in
theorem gX4_addWorker_X4_isIn : GoodIn wsX4_addWorker (va_wsS RX4 57 yX4_isIn wsX4_isIn) := goodIn_app (goodIn_of _ (by decide +kernel)) ggX4_addWorker_X4_isIn
theorem dX4_addWorker_0 : decode cX4_addWorker 0 = .ok (.aload_n 0, 1) := by decide +kernel
theorem dX4_addWorker_1 : decode cX4_addWorker 1 = .ok (.iload_n 1, 1) := by decide +kernel
theorem dX4_addWorker_2 : decode cX4_addWorker 2 = .ok (.iconst 0, 1) := by decide +kernel
theorem dX4_addWorker_3 : decode cX4_addWorker 3 = .ok (.iconst 3, 1) := by decide +kernel
theorem dX4_addWorker_4 : decode cX4_addWorker 4 = .ok (.invokestatic 57, 3) := by decide +kernel
theorem dX4_addWorker_7 : decode cX4_addWorker 7 = .ok (.ifCond .ne 7, 3) := by decide +kernel
theorem dX4_addWorker_10 : decode cX4_addWorker 10 = .ok (.iconst 1, 1) := by decide +kernel
theorem dX4_addWorker_11 : decode cX4_addWorker 11 = .ok (.goto 17, 3) := by decide +kernel
theorem dX4_addWorker_14 : decode cX4_addWorker 14 = .ok (.aload_n 0, 1) := by decide +kernel
theorem dX4_addWorker_15 : decode cX4_addWorker 15 = .ok (.getfield 64, 3) := by decide +kernel
theorem dX4_addWorker_18 : decode cX4_addWorker 18 = .ok (.bipush 12, 2) := by decide +kernel
theorem dX4_addWorker_20 : decode cX4_addWorker 20 = .ok (.if_icmp .ne 7, 3) := by decide +kernel
theorem dX4_addWorker_23 : decode cX4_addWorker 23 = .ok (.iconst 2, 1) := by decide +kernel
theorem dX4_addWorker_24 : decode cX4_addWorker 24 = .ok (.goto 4, 3) := by decide +kernel
theorem dX4_addWorker_27 : decode cX4_addWorker 27 = .ok (.iconst 0, 1) := by decide +kernel
theorem dX4_addWorker_28 : decode cX4_addWorker 28 = .ok (.putfield 53, 3) := by decide +kernel
theorem dX4_addWorker_31 : decode cX4_addWorker 31 = .ok (.aload_n 0, 1) := by decide +kernel
theorem dX4_addWorker_32 : decode cX4_addWorker 32 = .ok (.getfield 53, 3) := by decide +kernel
theorem dX4_addWorker_35 : decode cX4_addWorker 35 = .ok (.ifCond .le 5, 3) := by decide +kernel
theorem dX4_addWorker_38 : decode cX4_addWorker 38 = .ok (.iconst 0, 1) := by decide +kernel
theorem dX4_addWorker_39 : decode cX4_addWorker 39 = .ok (.ireturn, 1) := by decide +kernel
theorem dX4_addWorker_40 : decode cX4_addWorker 40 = .ok (.aload_n 0, 1) := by decide +kernel
theorem dX4_addWorker_41 : decode cX4_addWorker 41 = .ok (.getfield 35, 3) := by decide +kernel
theorem dX4_addWorker_44 : decode cX4_addWorker 44 = .ok (.aload_n 0, 1) := by decide +kernel
theorem dX4_addWorker_45 : decode cX4_addWorker 45 = .ok (.getfield 64, 3) := by decide +kernel
theorem dX4_addWorker_48 : decode cX4_addWorker 48 = .ok (.iload_n 1, 1) := by decide +kernel
theorem dX4_addWorker_49 : decode cX4_addWorker 49 = .ok (.iastore, 1) := by decide +kernel
theorem dX4_addWorker_50 : decode cX4_addWorker 50 = .ok (.aload_n 0, 1) := by decide +kernel
theorem dX4_addWorker_51 : decode cX4_addWorker 51 = .ok (.dup, 1) := by decide +kernel
theorem dX4_addWorker_52 : decode cX4_addWorker 52 = .ok (.getfield 64, 3) := by decide +kernel
theorem dX4_addWorker_55 : decode cX4_addWorker 55 = .ok (.iconst 1, 1) := by decide +kernel
theorem dX4_addWorker_56 : decode cX4_addWorker 56 = .ok (.iadd, 1) := by decide +kernel
theorem dX4_addWorker_57 : decode cX4_addWorker 57 = .ok (.putfield 64, 3) := by decide +kernel
theorem dX4_addWorker_60 : decode cX4_addWorker 60 = .ok (.aload_n 0, 1) := by decide +kernel
theorem dX4_addWorker_61 : decode cX4_addWorker 61 = .ok (.getfield 64, 3) := by decide +kernel
theorem dX4_addWorker_64 : decode cX4_addWorker 64 = .ok (.iconst 1, 1) := by decide +kernel
theorem dX4_addWorker_65 : decode cX4_addWorker 65 = .ok (.isub, 1) := by decide +kernel
theorem dX4_addWorker_66 : decode cX4_addWorker 66 = .ok (.ireturn, 1) := by decide +kernel
set_option maxRecDepth 20000 in
theorem ggX4_setRank_X4_isWorker : GoodIn wsX4_setRank wsX4_isWorker := goodIn_r _ [7, 8, 9, 10, 6, 11, 12, 13, 14, 15, 16, 17, 18, 19, 20, 21, 22, 23, 24, 25, 26, 27, 28, 29] (by decide +kernel) (by decide +kernel)
set_option maxRecDepth 20000 in
theorem gX4_setRank_X4_isWorker : GoodIn wsX4_setRank (wsV RX4 70 RX4 yX4_isWorker wsX4_isWorker) := goodIn_app (goodIn_of _ (by decide +kernel)) ggX4_setRank_X4_isWorker
set_option maxRecDepth 20000 in
theorem ggX4_setRank_X4_isIn : GoodIn wsX4_setRank wsX4_isIn := goodIn_r _ [11] (by decide +kernel) (by decide +kernel)
set_option maxRecDepth 20000 in
theorem gX4_setRank_X4_isIn : GoodIn wsX4_setRank (va_wsS RX4 57 yX4_isIn wsX4_isIn) := goodIn_app (goodIn_of _ (by decide +kernel)) ggX4_setRank_X4_isIn
theorem dX4_setRank_0 : decode cX4_setRank 0 = .ok (.aload_n 0, 1) := by decide +kernel
theorem dX4_setRank_1 : decode cX4_setRank 1 = .ok (.aload_n 0, 1) := by decide +kernel
theorem dX4_setRank_2 : decode cX4_setRank 2 = .ok (.iload_n 1, 1) := by decide +kernel
theorem dX4_setRank_3 : decode cX4_setRank 3 = .ok (.invokevirtual 70, 3) := by decide +kernel
theorem dX4_setRank_6 : decode cX4_setRank 6 = .ok (.ifCond .ne 7, 3) := by decide +kernel
theorem dX4_setRank_9 : decode cX4_setRank 9 = .ok (.iconst 1, 1) := by decide +kernel
theorem dX4_setRank_10 : decode cX4_setRank 10 = .ok (.goto 17, 3) := by decide +kernel
theorem dX4_setRank_13 : decode cX4_setRank 13 = .ok (.iload_n 2, 1) := by decide +kernel
theorem dX4_setRank_14 : decode cX4_setRank 14 = .ok (.iconst 0, 1) := by decide +kernel
theorem dX4_setRank_15 : decode cX4_setRank 15 = .ok (.iconst 3, 1) := by decide +kernel
theorem dX4_setRank_16 : decode cX4_setRank 16 = .ok (.invokestatic 57, 3) := by decide +kernel
theorem dX4_setRank_19 : decode cX4_setRank 19 = .ok (.ifCond .eq 7, 3) := by decide +kernel
theorem dX4_setRank_22 : decode cX4_setRank 22 = .ok (.iconst 0, 1) := by decide +kernel
theorem dX4_setRank_23 : decode cX4_setRank 23 = .ok (.goto 4, 3) := by decide +kernel
theorem dX4_setRank_26 : decode cX4_setRank 26 = .ok (.iconst 2, 1) := by decide +kernel
theorem dX4_setRank_27 : decode cX4_setRank 27 = .ok (.putfield 53, 3) := by decide +kernel
theorem dX4_setRank_30 : decode cX4_setRank 30 = .ok (.aload_n 0, 1) := by decide +kernel
theorem dX4_setRank_31 : decode cX4_setRank 31 = .ok (.getfield 53, 3) := by decide +kernel
theorem dX4_setRank_34 : decode cX4_setRank 34 = .ok (.ifCond .le 5, 3) := by decide +kernel
theorem dX4_setRank_37 : decode cX4_setRank 37 = .ok (.iconst 0, 1) := by decide +kernel
theorem dX4_setRank_38 : decode cX4_setRank 38 = .ok (.ireturn, 1) := by decide +kernel
theorem dX4_setRank_39 : decode cX4_setRank 39 = .ok (.aload_n 0, 1) := by decide +kernel
theorem dX4_setRank_40 : decode cX4_setRank 40 = .ok (.getfield 35, 3) := by decide +kernel
theorem dX4_setRank_43 : decode cX4_setRank 43 = .ok (.iload_n 1, 1) := by decide +kernel
theorem dX4_setRank_44 : decode cX4_setRank 44 = .ok (.iaload, 1) := by decide +kernel
theorem dX4_setRank_45 : decode cX4_setRank 45 = .ok (.istore_n 3, 1) := by decide +kernel
theorem dX4_setRank_46 : decode cX4_setRank 46 = .ok (.aload_n 0, 1) := by decide +kernel
theorem dX4_setRank_47 : decode cX4_setRank 47 = .ok (.getfield 35, 3) := by decide +kernel
theorem dX4_setRank_50 : decode cX4_setRank 50 = .ok (.iload_n 1, 1) := by decide +kernel
theorem dX4_setRank_51 : decode cX4_setRank 51 = .ok (.iload_n 2, 1) := by decide +kernel
theorem dX4_setRank_52 : decode cX4_setRank 52 = .ok (.iastore, 1) := by decide +kernel
theorem dX4_setRank_53 : decode cX4_setRank 53 = .ok (.iload_n 3, 1) := by decide +kernel
theorem dX4_setRank_54 : decode cX4_setRank 54 = .ok (.ireturn, 1) := by decide +kernel
set_option maxRecDepth 20000 in
theorem ggX4_addShift_X4_isIn : GoodIn wsX4_addShift wsX4_isIn := goodIn_r _ [10] (by decide +kernel) (by decide +kernel)
set_option maxRecDepth 20000 in
theorem gX4_addShift_X4_isIn : GoodIn wsX4_addShift (va_wsS RX4 57 yX4_isIn wsX4_isIn) := goodIn_app (goodIn_of _ (by decide +kernel)) ggX4_addShift_X4_isIn
set_option maxRecDepth 20000 in
theorem ggX4_addShift_X4_isWorker : GoodIn wsX4_addShift wsX4_isWorker := goodIn_r _ [14, 15, 7, 8, 9, 10, 16, 17, 18, 19, 20, 21, 22, 23, 24, 25, 26, 27, 28, 29, 30, 31, 32, 33] (by decide +kernel) (by decide +kernel)
set_option maxRecDepth 20000 in
theorem gX4_addShift_X4_isWorker : GoodIn wsX4_addShift (wsV RX4 70 RX4 yX4_isWorker wsX4_isWorker) := goodIn_app (goodIn_of _ (by decide +kernel)) ggX4_addShift_X4_isWorker
theorem dX4_addShift_0 : decode cX4_addShift 0 = .ok (.iload_n 2, 1) := by decide +kernel
theorem dX4_addShift_1 : decode cX4_addShift 1 = .ok (.iconst 0, 1) := by decide +kernel
theorem dX4_addShift_2 : decode cX4_addShift 2 = .ok (.sipush 362, 3) := by decide +kernel
theorem dX4_addShift_5 : decode cX4_addShift 5 = .ok (.invokestatic 57, 3) := by decide +kernel
theorem dX4_addShift_8 : decode cX4_addShift 8 = .ok (.ifCond .eq 28, 3) := by decide +kernel
theorem dX4_addShift_11 : decode cX4_addShift 11 = .ok (.iload_n 3, 1) := by decide +kernel
theorem dX4_addShift_12 : decode cX4_addShift 12 = .ok (.iconst 0, 1) := by decide +kernel
theorem dX4_addShift_13 : decode cX4_addShift 13 = .ok (.bipush 95, 2) := by decide +kernel
theorem dX4_addShift_15 : decode cX4_addShift 15 = .ok (.invokestatic 57, 3) := by decide +kernel
theorem dX4_addShift_18 : decode cX4_addShift 18 = .ok (.ifCond .eq 18, 3) := by decide +kernel
theorem dX4_addShift_21 : decode cX4_addShift 21 = .ok (.iload 4, 2) := by decide +kernel
theorem dX4_addShift_23 : decode cX4_addShift 23 = .ok (.iconst 1, 1) := by decide +kernel
theorem dX4_addShift_24 : decode cX4_addShift 24 = .ok (.bipush 64, 2) := by decide +kernel
theorem dX4_addShift_26 : decode cX4_addShift 26 = .ok (.invokestatic 57, 3) := by decide +kernel
theorem dX4_addShift_29 : decode cX4_addShift 29 = .ok (.ifCond .eq 7, 3) := by decide +kernel
theorem dX4_addShift_32 : decode cX4_addShift 32 = .ok (.iconst 1, 1) := by decide +kernel
theorem dX4_addShift_33 : decode cX4_addShift 33 = .ok (.goto 4, 3) := by decide +kernel
theorem dX4_addShift_36 : decode cX4_addShift 36 = .ok (.iconst 0, 1) := by decide +kernel
theorem dX4_addShift_37 : decode cX4_addShift 37 = .ok (.istore 5, 2) := by decide +kernel
theorem dX4_addShift_39 : decode cX4_addShift 39 = .ok (.aload_n 0, 1) := by decide +kernel
theorem dX4_addShift_40 : decode cX4_addShift 40 = .ok (.aload_n 0, 1) := by decide +kernel
theorem dX4_addShift_41 : decode cX4_addShift 41 = .ok (.iload_n 1, 1) := by decide +kernel
theorem dX4_addShift_42 : decode cX4_addShift 42 = .ok (.invokevirtual 70, 3) := by decide +kernel
theorem dX4_addShift_45 : decode cX4_addShift 45 = .ok (.ifCond .ne 7, 3) := by decide +kernel
theorem dX4_addShift_48 : decode cX4_addShift 48 = .ok (.iconst 1, 1) := by decide +kernel
theorem dX4_addShift_49 : decode cX4_addShift 49 = .ok (.goto 13, 3) := by decide +kernel
theorem dX4_addShift_52 : decode cX4_addShift 52 = .ok (.iload 5, 2) := by decide +kernel
theorem dX4_addShift_54 : decode cX4_addShift 54 = .ok (.ifCond .eq 7, 3) := by decide +kernel
theorem dX4_addShift_57 : decode cX4_addShift 57 = .ok (.iconst 0, 1) := by decide +kernel
theorem dX4_addShift_58 : decode cX4_addShift 58 = .ok (.goto 4, 3) := by decide +kernel
theorem dX4_addShift_61 : decode cX4_addShift 61 = .ok (.iconst 2, 1) := by decide +kernel
theorem dX4_addShift_62 : decode cX4_addShift 62 = .ok (.putfield 53, 3) := by decide +kernel
theorem dX4_addShift_65 : decode cX4_addShift 65 = .ok (.aload_n 0, 1) := by decide +kernel
theorem dX4_addShift_66 : decode cX4_addShift 66 = .ok (.getfield 53, 3) := by decide +kernel
theorem dX4_addShift_69 : decode cX4_addShift 69 = .ok (.ifCond .le 5, 3) := by decide +kernel
theorem dX4_addShift_72 : decode cX4_addShift 72 = .ok (.iconst 0, 1) := by decide +kernel
theorem dX4_addShift_73 : decode cX4_addShift 73 = .ok (.ireturn, 1) := by decide +kernel
theorem dX4_addShift_74 : decode cX4_addShift 74 = .ok (.bipush 96, 2) := by decide +kernel
theorem dX4_addShift_76 : decode cX4_addShift 76 = .ok (.iload_n 2, 1) := by decide +kernel
theorem dX4_addShift_77 : decode cX4_addShift 77 = .ok (.imul, 1) := by decide +kernel
theorem dX4_addShift_78 : decode cX4_addShift 78 = .ok (.iload_n 3, 1) := by decide +kernel
theorem dX4_addShift_79 : decode cX4_addShift 79 = .ok (.iadd, 1) := by decide +kernel
theorem dX4_addShift_80 : decode cX4_addShift 80 = .ok (.istore 6, 2) := by decide +kernel
theorem dX4_addShift_82 : decode cX4_addShift 82 = .ok (.aload_n 0, 1) := by decide +kernel
theorem dX4_addShift_83 : decode cX4_addShift 83 = .ok (.aload_n 0, 1) := by decide +kernel
theorem dX4_addShift_84 : decode cX4_addShift 84 = .ok (.getfield 67, 3) := by decide +kernel
theorem dX4_addShift_87 : decode cX4_addShift 87 = .ok (.bipush 80, 2) := by decide +kernel
theorem dX4_addShift_89 : decode cX4_addShift 89 = .ok (.if_icmp .ne 7, 3) := by decide +kernel
theorem dX4_addShift_92 : decode cX4_addShift 92 = .ok (.iconst 3, 1) := by decide +kernel
theorem dX4_addShift_93 : decode cX4_addShift 93 = .ok (.goto 4, 3) := by decide +kernel
theorem dX4_addShift_96 : decode cX4_addShift 96 = .ok (.iconst 0, 1) := by decide +kernel
theorem dX4_addShift_97 : decode cX4_addShift 97 = .ok (.putfield 53, 3) := by decide +kernel
theorem dX4_addShift_100 : decode cX4_addShift 100 = .ok (.iconst 0, 1) := by decide +kernel
theorem dX4_addShift_101 : decode cX4_addShift 101 = .ok (.istore 7, 2) := by decide +kernel
theorem dX4_addShift_103 : decode cX4_addShift 103 = .ok (.iload 7, 2) := by decide +kernel
theorem dX4_addShift_105 : decode cX4_addShift 105 = .ok (.aload_n 0, 1) := by decide +kernel
theorem dX4_addShift_106 : decode cX4_addShift 106 = .ok (.getfield 67, 3) := by decide +kernel
theorem dX4_addShift_109 : decode cX4_addShift 109 = .ok (.if_icmp .ge 89, 3) := by decide +kernel
theorem dX4_addShift_112 : decode cX4_addShift 112 = .ok (.aload_n 0, 1) := by decide +kernel
theorem dX4_addShift_113 : decode cX4_addShift 113 = .ok (.getfield 50, 3) := by decide +kernel
theorem dX4_addShift_116 : decode cX4_addShift 116 = .ok (.iload 7, 2) := by decide +kernel
theorem dX4_addShift_118 : decode cX4_addShift 118 = .ok (.baload, 1) := by decide +kernel
theorem dX4_addShift_119 : decode cX4_addShift 119 = .ok (.ifCond .ne 53, 3) := by decide +kernel
theorem dX4_addShift_122 : decode cX4_addShift 122 = .ok (.aload_n 0, 1) := by decide +kernel
theorem dX4_addShift_123 : decode cX4_addShift 123 = .ok (.getfield 38, 3) := by decide +kernel
theorem dX4_addShift_126 : decode cX4_addShift 126 = .ok (.iload 7, 2) := by decide +kernel
theorem dX4_addShift_128 : decode cX4_addShift 128 = .ok (.iaload, 1) := by decide +kernel
theorem dX4_addShift_129 : decode cX4_addShift 129 = .ok (.iload_n 1, 1) := by decide +kernel
theorem dX4_addShift_130 : decode cX4_addShift 130 = .ok (.if_icmp .ne 42, 3) := by decide +kernel
theorem dX4_addShift_133 : decode cX4_addShift 133 = .ok (.iload 6, 2) := by decide +kernel
theorem dX4_addShift_135 : decode cX4_addShift 135 = .ok (.aload_n 0, 1) := by decide +kernel
theorem dX4_addShift_136 : decode cX4_addShift 136 = .ok (.getfield 41, 3) := by decide +kernel
theorem dX4_addShift_139 : decode cX4_addShift 139 = .ok (.iload 7, 2) := by decide +kernel
theorem dX4_addShift_141 : decode cX4_addShift 141 = .ok (.iaload, 1) := by decide +kernel
theorem dX4_addShift_142 : decode cX4_addShift 142 = .ok (.aload_n 0, 1) := by decide +kernel
theorem dX4_addShift_143 : decode cX4_addShift 143 = .ok (.getfield 44, 3) := by decide +kernel
theorem dX4_addShift_146 : decode cX4_addShift 146 = .ok (.iload 7, 2) := by decide +kernel
theorem dX4_addShift_148 : decode cX4_addShift 148 = .ok (.iaload, 1) := by decide +kernel
theorem dX4_addShift_149 : decode cX4_addShift 149 = .ok (.iadd, 1) := by decide +kernel
theorem dX4_addShift_150 : decode cX4_addShift 150 = .ok (.if_icmp .ge 22, 3) := by decide +kernel
theorem dX4_addShift_153 : decode cX4_addShift 153 = .ok (.aload_n 0, 1) := by decide +kernel
theorem dX4_addShift_154 : decode cX4_addShift 154 = .ok (.getfield 41, 3) := by decide +kernel
theorem dX4_addShift_157 : decode cX4_addShift 157 = .ok (.iload 7, 2) := by decide +kernel
theorem dX4_addShift_159 : decode cX4_addShift 159 = .ok (.iaload, 1) := by decide +kernel
theorem dX4_addShift_160 : decode cX4_addShift 160 = .ok (.iload 6, 2) := by decide +kernel
theorem dX4_addShift_162 : decode cX4_addShift 162 = .ok (.iload 4, 2) := by decide +kernel
theorem dX4_addShift_164 : decode cX4_addShift 164 = .ok (.iadd, 1) := by decide +kernel
theorem dX4_addShift_165 : decode cX4_addShift 165 = .ok (.if_icmp .ge 7, 3) := by decide +kernel
theorem dX4_addShift_168 : decode cX4_addShift 168 = .ok (.iconst 1, 1) := by decide +kernel
theorem dX4_addShift_169 : decode cX4_addShift 169 = .ok (.goto 4, 3) := by decide +kernel
theorem dX4_addShift_172 : decode cX4_addShift 172 = .ok (.iconst 0, 1) := by decide +kernel
theorem dX4_addShift_173 : decode cX4_addShift 173 = .ok (.istore 8, 2) := by decide +kernel
theorem dX4_addShift_175 : decode cX4_addShift 175 = .ok (.aload_n 0, 1) := by decide +kernel
theorem dX4_addShift_176 : decode cX4_addShift 176 = .ok (.iload 8, 2) := by decide +kernel
theorem dX4_addShift_178 : decode cX4_addShift 178 = .ok (.ifCond .eq 7, 3) := by decide +kernel
theorem dX4_addShift_181 : decode cX4_addShift 181 = .ok (.iconst 3, 1) := by decide +kernel
theorem dX4_addShift_182 : decode cX4_addShift 182 = .ok (.goto 7, 3) := by decide +kernel
theorem dX4_addShift_185 : decode cX4_addShift 185 = .ok (.aload_n 0, 1) := by decide +kernel
theorem dX4_addShift_186 : decode cX4_addShift 186 = .ok (.getfield 53, 3) := by decide +kernel
theorem dX4_addShift_189 : decode cX4_addShift 189 = .ok (.putfield 53, 3) := by decide +kernel
theorem dX4_addShift_192 : decode cX4_addShift 192 = .ok (.iinc 7 1, 3) := by decide +kernel
theorem dX4_addShift_195 : decode cX4_addShift 195 = .ok (.goto (-92), 3) := by decide +kernel
theorem dX4_addShift_198 : decode cX4_addShift 198 = .ok (.aload_n 0, 1) := by decide +kernel
theorem dX4_addShift_199 : decode cX4_addShift 199 = .ok (.getfield 53, 3) := by decide +kernel
theorem dX4_addShift_202 : decode cX4_addShift 202 = .ok (.ifCond .le 5, 3) := by decide +kernel
theorem dX4_addShift_205 : decode cX4_addShift 205 = .ok (.iconst 0, 1) := by decide +kernel
theorem dX4_addShift_206 : decode cX4_addShift 206 = .ok (.ireturn, 1) := by decide +kernel
theorem dX4_addShift_207 : decode cX4_addShift 207 = .ok (.aload_n 0, 1) := by decide +kernel
theorem dX4_addShift_208 : decode cX4_addShift 208 = .ok (.getfield 38, 3) := by decide +kernel
theorem dX4_addShift_211 : decode cX4_addShift 211 = .ok (.aload_n 0, 1) := by decide +kernel
theorem dX4_addShift_212 : decode cX4_addShift 212 = .ok (.getfield 67, 3) := by decide +kernel
theorem dX4_addShift_215 : decode cX4_addShift 215 = .ok (.iload_n 1, 1) := by decide +kernel
theorem dX4_addShift_216 : decode cX4_addShift 216 = .ok (.iastore, 1) := by decide +kernel
theorem dX4_addShift_217 : decode cX4_addShift 217 = .ok (.aload_n 0, 1) := by decide +kernel
theorem dX4_addShift_218 : decode cX4_addShift 218 = .ok (.getfield 41, 3) := by decide +kernel
theorem dX4_addShift_221 : decode cX4_addShift 221 = .ok (.aload_n 0, 1) := by decide +kernel
theorem dX4_addShift_222 : decode cX4_addShift 222 = .ok (.getfield 67, 3) := by decide +kernel
theorem dX4_addShift_225 : decode cX4_addShift 225 = .ok (.iload 6, 2) := by decide +kernel
theorem dX4_addShift_227 : decode cX4_addShift 227 = .ok (.iastore, 1) := by decide +kernel
theorem dX4_addShift_228 : decode cX4_addShift 228 = .ok (.aload_n 0, 1) := by decide +kernel
theorem dX4_addShift_229 : decode cX4_addShift 229 = .ok (.getfield 44, 3) := by decide +kernel
theorem dX4_addShift_232 : decode cX4_addShift 232 = .ok (.aload_n 0, 1) := by decide +kernel
theorem dX4_addShift_233 : decode cX4_addShift 233 = .ok (.getfield 67, 3) := by decide +kernel
theorem dX4_addShift_236 : decode cX4_addShift 236 = .ok (.iload 4, 2) := by decide +kernel
theorem dX4_addShift_238 : decode cX4_addShift 238 = .ok (.iastore, 1) := by decide +kernel
theorem dX4_addShift_239 : decode cX4_addShift 239 = .ok (.aload_n 0, 1) := by decide +kernel
theorem dX4_addShift_240 : decode cX4_addShift 240 = .ok (.dup, 1) := by decide +kernel
theorem dX4_addShift_241 : decode cX4_addShift 241 = .ok (.getfield 67, 3) := by decide +kernel
theorem dX4_addShift_244 : decode cX4_addShift 244 = .ok (.iconst 1, 1) := by decide +kernel
theorem dX4_addShift_245 : decode cX4_addShift 245 = .ok (.iadd, 1) := by decide +kernel
theorem dX4_addShift_246 : decode cX4_addShift 246 = .ok (.putfield 67, 3) := by decide +kernel
theorem dX4_addShift_249 : decode cX4_addShift 249 = .ok (.aload_n 0, 1) := by decide +kernel
theorem dX4_addShift_250 : decode cX4_addShift 250 = .ok (.getfield 67, 3) := by decide +kernel
theorem dX4_addShift_253 : decode cX4_addShift 253 = .ok (.iconst 1, 1) := by decide +kernel
theorem dX4_addShift_254 : decode cX4_addShift 254 = .ok (.isub, 1) := by decide +kernel
theorem dX4_addShift_255 : decode cX4_addShift 255 = .ok (.ireturn, 1) := by decide +kernel
set_option maxRecDepth 20000 in
theorem ggX4_cancel_X4_isShift : GoodIn wsX4_cancel wsX4_isShift := goodIn_r _ [7, 8, 2, 9, 10, 6, 11, 53, 54, 55, 56, 57, 58, 59, 60, 61, 62, 63, 64, 65, 66, 67, 68, 69, 70] (by decide +kernel) (by decide +kernel)
set_option maxRecDepth 20000 in
theorem gX4_cancel_X4_isShift : GoodIn wsX4_cancel (wsV RX4 74 RX4 yX4_isShift wsX4_isShift) := goodIn_app (goodIn_of _ (by decide +kernel)) ggX4_cancel_X4_isShift
set_option maxRecDepth 20000 in
theorem ggX4_cancel_X4_payed : GoodIn wsX4_cancel wsX4_payed := goodIn_r _ [15, 16, 17, 18, 19, 20, 21, 6, 22, 23, 1, 24, 25, 26, 27, 28, 29, 30, 31, 32, 33, 34, 35, 36, 37, 38, 39, 40, 41, 42, 43, 44, 45, 46, 47, 48, 49, 50, 51, 52, 53, 54, 55, 56, 57, 58, 59, 60, 61, 62, 63, 64, 65, 66, 67, 68, 69, 70] (by decide +kernel) (by decide +kernel)
set_option maxRecDepth 20000 in
theorem gX4_cancel_X4_payed : GoodIn wsX4_cancel (wsV RX4 77 RX4 yX4_payed wsX4_payed) := goodIn_app (goodIn_of _ (by decide +kernel)) ggX4_cancel_X4_payed
theorem dX4_cancel_0 : decode cX4_cancel 0 = .ok (.aload_n 0, 1) := by decide +kernel
theorem dX4_cancel_1 : decode cX4_cancel 1 = .ok (.iload_n 1, 1) := by decide +kernel
theorem dX4_cancel_2 : decode cX4_cancel 2 = .ok (.invokevirtual 74, 3) := by decide +kernel
theorem dX4_cancel_5 : decode cX4_cancel 5 = .ok (.ifCond .ne 5, 3) := by decide +kernel
theorem dX4_cancel_8 : decode cX4_cancel 8 = .ok (.iconst 0, 1) := by decide +kernel
theorem dX4_cancel_9 : decode cX4_cancel 9 = .ok (.ireturn, 1) := by decide +kernel
theorem dX4_cancel_10 : decode cX4_cancel 10 = .ok (.aload_n 0, 1) := by decide +kernel
theorem dX4_cancel_11 : decode cX4_cancel 11 = .ok (.aload_n 0, 1) := by decide +kernel
theorem dX4_cancel_12 : decode cX4_cancel 12 = .ok (.getfield 50, 3) := by decide +kernel
theorem dX4_cancel_15 : decode cX4_cancel 15 = .ok (.iload_n 1, 1) := by decide +kernel
theorem dX4_cancel_16 : decode cX4_cancel 16 = .ok (.baload, 1) := by decide +kernel
theorem dX4_cancel_17 : decode cX4_cancel 17 = .ok (.ifCond .eq 7, 3) := by decide +kernel
theorem dX4_cancel_20 : decode cX4_cancel 20 = .ok (.iconst 2, 1) := by decide +kernel
theorem dX4_cancel_21 : decode cX4_cancel 21 = .ok (.goto 4, 3) := by decide +kernel
theorem dX4_cancel_24 : decode cX4_cancel 24 = .ok (.iconst 0, 1) := by decide +kernel
theorem dX4_cancel_25 : decode cX4_cancel 25 = .ok (.putfield 53, 3) := by decide +kernel
theorem dX4_cancel_28 : decode cX4_cancel 28 = .ok (.aload_n 0, 1) := by decide +kernel
theorem dX4_cancel_29 : decode cX4_cancel 29 = .ok (.getfield 53, 3) := by decide +kernel
theorem dX4_cancel_32 : decode cX4_cancel 32 = .ok (.ifCond .le 5, 3) := by decide +kernel
theorem dX4_cancel_35 : decode cX4_cancel 35 = .ok (.iconst 0, 1) := by decide +kernel
theorem dX4_cancel_36 : decode cX4_cancel 36 = .ok (.ireturn, 1) := by decide +kernel
theorem dX4_cancel_37 : decode cX4_cancel 37 = .ok (.aload_n 0, 1) := by decide +kernel
theorem dX4_cancel_38 : decode cX4_cancel 38 = .ok (.iload_n 1, 1) := by decide +kernel
theorem dX4_cancel_39 : decode cX4_cancel 39 = .ok (.invokevirtual 77, 3) := by decide +kernel
theorem dX4_cancel_42 : decode cX4_cancel 42 = .ok (.istore_n 2, 1) := by decide +kernel
theorem dX4_cancel_43 : decode cX4_cancel 43 = .ok (.aload_n 0, 1) := by decide +kernel
theorem dX4_cancel_44 : decode cX4_cancel 44 = .ok (.getfield 50, 3) := by decide +kernel
theorem dX4_cancel_47 : decode cX4_cancel 47 = .ok (.iload_n 1, 1) := by decide +kernel
theorem dX4_cancel_48 : decode cX4_cancel 48 = .ok (.iconst 1, 1) := by decide +kernel
theorem dX4_cancel_49 : decode cX4_cancel 49 = .ok (.bastore, 1) := by decide +kernel
theorem dX4_cancel_50 : decode cX4_cancel 50 = .ok (.iload_n 2, 1) := by decide +kernel
theorem dX4_cancel_51 : decode cX4_cancel 51 = .ok (.ireturn, 1) := by decide +kernel
set_option maxRecDepth 20000 in
theorem ggX4_takeBreaks_X4_isShift : GoodIn wsX4_takeBreaks wsX4_isShift := goodIn_r _ [8, 9, 2, 10, 11, 7, 12, 13, 14, 15, 16, 17, 18, 19, 20, 21, 22, 23, 24, 25, 26, 27, 28, 29, 30] (by decide +kernel) (by decide +kernel)
set_option maxRecDepth 20000 in
theorem gX4_takeBreaks_X4_isShift : GoodIn wsX4_takeBreaks (wsV RX4 74 RX4 yX4_isShift wsX4_isShift) := goodIn_app (goodIn_of _ (by decide +kernel)) ggX4_takeBreaks_X4_isShift
set_option maxRecDepth 20000 in
theorem ggX4_takeBreaks_X4_isIn : GoodIn wsX4_takeBreaks wsX4_isIn := goodIn_r _ [12] (by decide +kernel) (by decide +kernel)
set_option maxRecDepth 20000 in
theorem gX4_takeBreaks_X4_isIn : GoodIn wsX4_takeBreaks (va_wsS RX4 57 yX4_isIn wsX4_isIn) := goodIn_app (goodIn_of _ (by decide +kernel)) ggX4_takeBreaks_X4_isIn
theorem dX4_takeBreaks_0 : decode cX4_takeBreaks 0 = .ok (.aload_n 0, 1) := by decide +kernel
theorem dX4_takeBreaks_1 : decode cX4_takeBreaks 1 = .ok (.iload_n 1, 1) := by decide +kernel
theorem dX4_takeBreaks_2 : decode cX4_takeBreaks 2 = .ok (.invokevirtual 74, 3) := by decide +kernel
theorem dX4_takeBreaks_5 : decode cX4_takeBreaks 5 = .ok (.ifCond .ne 5, 3) := by decide +kernel
theorem dX4_takeBreaks_8 : decode cX4_takeBreaks 8 = .ok (.iconst 0, 1) := by decide +kernel
theorem dX4_takeBreaks_9 : decode cX4_takeBreaks 9 = .ok (.ireturn, 1) := by decide +kernel
theorem dX4_takeBreaks_10 : decode cX4_takeBreaks 10 = .ok (.aload_n 0, 1) := by decide +kernel
theorem dX4_takeBreaks_11 : decode cX4_takeBreaks 11 = .ok (.iload_n 2, 1) := by decide +kernel
theorem dX4_takeBreaks_12 : decode cX4_takeBreaks 12 = .ok (.iconst 0, 1) := by decide +kernel
theorem dX4_takeBreaks_13 : decode cX4_takeBreaks 13 = .ok (.iconst 5, 1) := by decide +kernel
theorem dX4_takeBreaks_14 : decode cX4_takeBreaks 14 = .ok (.invokestatic 57, 3) := by decide +kernel
theorem dX4_takeBreaks_17 : decode cX4_takeBreaks 17 = .ok (.ifCond .ne 7, 3) := by decide +kernel
theorem dX4_takeBreaks_20 : decode cX4_takeBreaks 20 = .ok (.iconst 2, 1) := by decide +kernel
theorem dX4_takeBreaks_21 : decode cX4_takeBreaks 21 = .ok (.goto 17, 3) := by decide +kernel
theorem dX4_takeBreaks_24 : decode cX4_takeBreaks 24 = .ok (.aload_n 0, 1) := by decide +kernel
theorem dX4_takeBreaks_25 : decode cX4_takeBreaks 25 = .ok (.getfield 50, 3) := by decide +kernel
theorem dX4_takeBreaks_28 : decode cX4_takeBreaks 28 = .ok (.iload_n 1, 1) := by decide +kernel
theorem dX4_takeBreaks_29 : decode cX4_takeBreaks 29 = .ok (.baload, 1) := by decide +kernel
theorem dX4_takeBreaks_30 : decode cX4_takeBreaks 30 = .ok (.ifCond .eq 7, 3) := by decide +kernel
theorem dX4_takeBreaks_33 : decode cX4_takeBreaks 33 = .ok (.iconst 3, 1) := by decide +kernel
theorem dX4_takeBreaks_34 : decode cX4_takeBreaks 34 = .ok (.goto 4, 3) := by decide +kernel
theorem dX4_takeBreaks_37 : decode cX4_takeBreaks 37 = .ok (.iconst 0, 1) := by decide +kernel
theorem dX4_takeBreaks_38 : decode cX4_takeBreaks 38 = .ok (.putfield 53, 3) := by decide +kernel
theorem dX4_takeBreaks_41 : decode cX4_takeBreaks 41 = .ok (.aload_n 0, 1) := by decide +kernel
theorem dX4_takeBreaks_42 : decode cX4_takeBreaks 42 = .ok (.getfield 53, 3) := by decide +kernel
theorem dX4_takeBreaks_45 : decode cX4_takeBreaks 45 = .ok (.ifCond .le 5, 3) := by decide +kernel
theorem dX4_takeBreaks_48 : decode cX4_takeBreaks 48 = .ok (.iconst 0, 1) := by decide +kernel
theorem dX4_takeBreaks_49 : decode cX4_takeBreaks 49 = .ok (.ireturn, 1) := by decide +kernel
theorem dX4_takeBreaks_50 : decode cX4_takeBreaks 50 = .ok (.aload_n 0, 1) := by decide +kernel
theorem dX4_takeBreaks_51 : decode cX4_takeBreaks 51 = .ok (.getfield 47, 3) := by decide +kernel
theorem dX4_takeBreaks_54 : decode cX4_takeBreaks 54 = .ok (.iload_n 1, 1) := by decide +kernel
theorem dX4_takeBreaks_55 : decode cX4_takeBreaks 55 = .ok (.iaload, 1) := by decide +kernel
theorem dX4_takeBreaks_56 : decode cX4_takeBreaks 56 = .ok (.istore_n 3, 1) := by decide +kernel
theorem dX4_takeBreaks_57 : decode cX4_takeBreaks 57 = .ok (.aload_n 0, 1) := by decide +kernel
theorem dX4_takeBreaks_58 : decode cX4_takeBreaks 58 = .ok (.getfield 47, 3) := by decide +kernel
theorem dX4_takeBreaks_61 : decode cX4_takeBreaks 61 = .ok (.iload_n 1, 1) := by decide +kernel
theorem dX4_takeBreaks_62 : decode cX4_takeBreaks 62 = .ok (.iload_n 2, 1) := by decide +kernel
theorem dX4_takeBreaks_63 : decode cX4_takeBreaks 63 = .ok (.iastore, 1) := by decide +kernel
theorem dX4_takeBreaks_64 : decode cX4_takeBreaks 64 = .ok (.iload_n 3, 1) := by decide +kernel
theorem dX4_takeBreaks_65 : decode cX4_takeBreaks 65 = .ok (.ireturn, 1) := by decide +kernel
theorem dX4_shifts_0 : decode cX4_shifts 0 = .ok (.aload_n 0, 1) := by decide +kernel
theorem dX4_shifts_1 : decode cX4_shifts 1 = .ok (.iconst 0, 1) := by decide +kernel
theorem dX4_shifts_2 : decode cX4_shifts 2 = .ok (.putfield 53, 3) := by decide +kernel
theorem dX4_shifts_5 : decode cX4_shifts 5 = .ok (.aload_n 0, 1) := by decide +kernel
theorem dX4_shifts_6 : decode cX4_shifts 6 = .ok (.getfield 67, 3) := by decide +kernel
theorem dX4_shifts_9 : decode cX4_shifts 9 = .ok (.ireturn, 1) := by decide +kernel
theorem dX4_paid_0 : decode cX4_paid 0 = .ok (.aload_n 0, 1) := by decide +kernel
theorem dX4_paid_1 : decode cX4_paid 1 = .ok (.getfield 50, 3) := by decide +kernel
theorem dX4_paid_4 : decode cX4_paid 4 = .ok (.iload_n 1, 1) := by decide +kernel
theorem dX4_paid_5 : decode cX4_paid 5 = .ok (.baload, 1) := by decide +kernel
theorem dX4_paid_6 : decode cX4_paid 6 = .ok (.ifCond .eq 7, 3) := by decide +kernel
theorem dX4_paid_9 : decode cX4_paid 9 = .ok (.iconst 0, 1) := by decide +kernel
theorem dX4_paid_10 : decode cX4_paid 10 = .ok (.goto 25, 3) := by decide +kernel
theorem dX4_paid_13 : decode cX4_paid 13 = .ok (.aload_n 0, 1) := by decide +kernel
theorem dX4_paid_14 : decode cX4_paid 14 = .ok (.getfield 44, 3) := by decide +kernel
theorem dX4_paid_17 : decode cX4_paid 17 = .ok (.iload_n 1, 1) := by decide +kernel
theorem dX4_paid_18 : decode cX4_paid 18 = .ok (.iaload, 1) := by decide +kernel
theorem dX4_paid_19 : decode cX4_paid 19 = .ok (.bipush 12, 2) := by decide +kernel
theorem dX4_paid_21 : decode cX4_paid 21 = .ok (.if_icmp .ge 8, 3) := by decide +kernel
theorem dX4_paid_24 : decode cX4_paid 24 = .ok (.bipush 12, 2) := by decide +kernel
theorem dX4_paid_26 : decode cX4_paid 26 = .ok (.goto 9, 3) := by decide +kernel
theorem dX4_paid_29 : decode cX4_paid 29 = .ok (.aload_n 0, 1) := by decide +kernel
theorem dX4_paid_30 : decode cX4_paid 30 = .ok (.getfield 44, 3) := by decide +kernel
theorem dX4_paid_33 : decode cX4_paid 33 = .ok (.iload_n 1, 1) := by decide +kernel
theorem dX4_paid_34 : decode cX4_paid 34 = .ok (.iaload, 1) := by decide +kernel
theorem dX4_paid_35 : decode cX4_paid 35 = .ok (.ireturn, 1) := by decide +kernel
theorem dX4_overtime_0 : decode cX4_overtime 0 = .ok (.iload_n 0, 1) := by decide +kernel
theorem dX4_overtime_1 : decode cX4_overtime 1 = .ok (.bipush 40, 2) := by decide +kernel
theorem dX4_overtime_3 : decode cX4_overtime 3 = .ok (.if_icmp .lt 9, 3) := by decide +kernel
theorem dX4_overtime_6 : decode cX4_overtime 6 = .ok (.sipush 200, 3) := by decide +kernel
theorem dX4_overtime_9 : decode cX4_overtime 9 = .ok (.goto 17, 3) := by decide +kernel
theorem dX4_overtime_12 : decode cX4_overtime 12 = .ok (.iload_n 0, 1) := by decide +kernel
theorem dX4_overtime_13 : decode cX4_overtime 13 = .ok (.bipush 32, 2) := by decide +kernel
theorem dX4_overtime_15 : decode cX4_overtime 15 = .ok (.if_icmp .lt 9, 3) := by decide +kernel
theorem dX4_overtime_18 : decode cX4_overtime 18 = .ok (.sipush 150, 3) := by decide +kernel
theorem dX4_overtime_21 : decode cX4_overtime 21 = .ok (.goto 5, 3) := by decide +kernel
theorem dX4_overtime_24 : decode cX4_overtime 24 = .ok (.bipush 100, 2) := by decide +kernel
theorem dX4_overtime_26 : decode cX4_overtime 26 = .ok (.ireturn, 1) := by decide +kernel
set_option maxRecDepth 20000 in
theorem ggX4_percented_X4_overtime : GoodIn wsX4_percented wsX4_overtime := goodIn_r _ [9] (by decide +kernel) (by decide +kernel)
set_option maxRecDepth 20000 in
theorem gX4_percented_X4_overtime : GoodIn wsX4_percented (va_wsS RX4 81 yX4_overtime wsX4_overtime) := goodIn_app (goodIn_of _ (by decide +kernel)) ggX4_percented_X4_overtime
set_option maxRecDepth 20000 in
theorem ggX4_percented_X4_applies : GoodIn wsX4_percented wsX4_applies := goodIn_r _ [13, 14, 15, 16, 17, 18, 19, 20, 21, 22, 23, 24, 25, 26, 27, 28, 29, 30, 31, 32, 33, 34, 35, 36, 37] (by decide +kernel) (by decide +kernel)
set_option maxRecDepth 20000 in
theorem gX4_percented_X4_applies : GoodIn wsX4_percented (wsV RX4 84 RX4 yX4_applies wsX4_applies) := goodIn_app (goodIn_of _ (by decide +kernel)) ggX4_percented_X4_applies
theorem dX4_percented_0 : decode cX4_percented 0 = .ok (.iload_n 2, 1) := by decide +kernel
theorem dX4_percented_1 : decode cX4_percented 1 = .ok (.invokestatic 81, 3) := by decide +kernel
theorem dX4_percented_4 : decode cX4_percented 4 = .ok (.istore_n 3, 1) := by decide +kernel
theorem dX4_percented_5 : decode cX4_percented 5 = .ok (.iconst 0, 1) := by decide +kernel
theorem dX4_percented_6 : decode cX4_percented 6 = .ok (.istore 4, 2) := by decide +kernel
theorem dX4_percented_8 : decode cX4_percented 8 = .ok (.iload 4, 2) := by decide +kernel
theorem dX4_percented_10 : decode cX4_percented 10 = .ok (.aload_n 0, 1) := by decide +kernel
theorem dX4_percented_11 : decode cX4_percented 11 = .ok (.getfield 61, 3) := by decide +kernel
theorem dX4_percented_14 : decode cX4_percented 14 = .ok (.if_icmp .ge 72, 3) := by decide +kernel
theorem dX4_percented_17 : decode cX4_percented 17 = .ok (.aload_n 0, 1) := by decide +kernel
theorem dX4_percented_18 : decode cX4_percented 18 = .ok (.getfield 25, 3) := by decide +kernel
theorem dX4_percented_21 : decode cX4_percented 21 = .ok (.iload 4, 2) := by decide +kernel
theorem dX4_percented_23 : decode cX4_percented 23 = .ok (.iaload, 1) := by decide +kernel
theorem dX4_percented_24 : decode cX4_percented 24 = .ok (.iload_n 3, 1) := by decide +kernel
theorem dX4_percented_25 : decode cX4_percented 25 = .ok (.if_icmp .le 35, 3) := by decide +kernel
theorem dX4_percented_28 : decode cX4_percented 28 = .ok (.aload_n 0, 1) := by decide +kernel
theorem dX4_percented_29 : decode cX4_percented 29 = .ok (.iload 4, 2) := by decide +kernel
theorem dX4_percented_31 : decode cX4_percented 31 = .ok (.aload_n 0, 1) := by decide +kernel
theorem dX4_percented_32 : decode cX4_percented 32 = .ok (.getfield 41, 3) := by decide +kernel
theorem dX4_percented_35 : decode cX4_percented 35 = .ok (.iload_n 1, 1) := by decide +kernel
theorem dX4_percented_36 : decode cX4_percented 36 = .ok (.iaload, 1) := by decide +kernel
theorem dX4_percented_37 : decode cX4_percented 37 = .ok (.iload_n 2, 1) := by decide +kernel
theorem dX4_percented_38 : decode cX4_percented 38 = .ok (.iadd, 1) := by decide +kernel
theorem dX4_percented_39 : decode cX4_percented 39 = .ok (.aload_n 0, 1) := by decide +kernel
theorem dX4_percented_40 : decode cX4_percented 40 = .ok (.getfield 35, 3) := by decide +kernel
theorem dX4_percented_43 : decode cX4_percented 43 = .ok (.aload_n 0, 1) := by decide +kernel
theorem dX4_percented_44 : decode cX4_percented 44 = .ok (.getfield 38, 3) := by decide +kernel
theorem dX4_percented_47 : decode cX4_percented 47 = .ok (.iload_n 1, 1) := by decide +kernel
theorem dX4_percented_48 : decode cX4_percented 48 = .ok (.iaload, 1) := by decide +kernel
theorem dX4_percented_49 : decode cX4_percented 49 = .ok (.iaload, 1) := by decide +kernel
theorem dX4_percented_50 : decode cX4_percented 50 = .ok (.invokevirtual 84, 3) := by decide +kernel
theorem dX4_percented_53 : decode cX4_percented 53 = .ok (.ifCond .eq 7, 3) := by decide +kernel
theorem dX4_percented_56 : decode cX4_percented 56 = .ok (.iconst 1, 1) := by decide +kernel
theorem dX4_percented_57 : decode cX4_percented 57 = .ok (.goto 4, 3) := by decide +kernel
theorem dX4_percented_60 : decode cX4_percented 60 = .ok (.iconst 0, 1) := by decide +kernel
theorem dX4_percented_61 : decode cX4_percented 61 = .ok (.istore 5, 2) := by decide +kernel
theorem dX4_percented_63 : decode cX4_percented 63 = .ok (.iload 5, 2) := by decide +kernel
theorem dX4_percented_65 : decode cX4_percented 65 = .ok (.ifCond .eq 13, 3) := by decide +kernel
theorem dX4_percented_68 : decode cX4_percented 68 = .ok (.aload_n 0, 1) := by decide +kernel
theorem dX4_percented_69 : decode cX4_percented 69 = .ok (.getfield 25, 3) := by decide +kernel
theorem dX4_percented_72 : decode cX4_percented 72 = .ok (.iload 4, 2) := by decide +kernel
theorem dX4_percented_74 : decode cX4_percented 74 = .ok (.iaload, 1) := by decide +kernel
theorem dX4_percented_75 : decode cX4_percented 75 = .ok (.goto 4, 3) := by decide +kernel
theorem dX4_percented_78 : decode cX4_percented 78 = .ok (.iload_n 3, 1) := by decide +kernel
theorem dX4_percented_79 : decode cX4_percented 79 = .ok (.istore_n 3, 1) := by decide +kernel
theorem dX4_percented_80 : decode cX4_percented 80 = .ok (.iinc 4 1, 3) := by decide +kernel
theorem dX4_percented_83 : decode cX4_percented 83 = .ok (.goto (-75), 3) := by decide +kernel
theorem dX4_percented_86 : decode cX4_percented 86 = .ok (.iload_n 3, 1) := by decide +kernel
theorem dX4_percented_87 : decode cX4_percented 87 = .ok (.ireturn, 1) := by decide +kernel
set_option maxRecDepth 20000 in
theorem ggX4_reasoned_X4_percented : GoodIn wsX4_reasoned wsX4_percented := goodIn_r _ [10, 1, 2, 3, 4, 5, 11, 12, 9, 13, 14, 15, 16, 17, 18, 19, 20, 21, 22, 23, 24, 25, 26, 27, 28, 29, 30, 31, 32, 33, 34, 35, 36, 37, 38, 39, 40, 41] (by decide +kernel) (by decide +kernel)
set_option maxRecDepth 20000 in
theorem gX4_reasoned_X4_percented : GoodIn wsX4_reasoned (wsV RX4 87 RX4 yX4_percented wsX4_percented) := goodIn_app (goodIn_of _ (by decide +kernel)) ggX4_reasoned_X4_percented
set_option maxRecDepth 20000 in
theorem ggX4_reasoned_X4_applies : GoodIn wsX4_reasoned wsX4_applies := goodIn_r _ [17, 18, 19, 20, 21, 22, 23, 24, 25, 26, 27, 28, 29, 30, 31, 32, 33, 34, 35, 36, 37, 38, 39, 40, 41] (by decide +kernel) (by decide +kernel)
set_option maxRecDepth 20000 in
theorem gX4_reasoned_X4_applies : GoodIn wsX4_reasoned (wsV RX4 84 RX4 yX4_applies wsX4_applies) := goodIn_app (goodIn_of _ (by decide +kernel)) ggX4_reasoned_X4_applies
set_option maxRecDepth 20000 in
theorem ggX4_reasoned_X4_overtime : GoodIn wsX4_reasoned wsX4_overtime := goodIn_r _ [13] (by decide +kernel) (by decide +kernel)
set_option maxRecDepth 20000 in
theorem gX4_reasoned_X4_overtime : GoodIn wsX4_reasoned (va_wsS RX4 81 yX4_overtime wsX4_overtime) := goodIn_app (goodIn_of _ (by decide +kernel)) ggX4_reasoned_X4_overtime
theorem dX4_reasoned_0 : decode cX4_reasoned 0 = .ok (.aload_n 0, 1) := by decide +kernel
theorem dX4_reasoned_1 : decode cX4_reasoned 1 = .ok (.iload_n 1, 1) := by decide +kernel
theorem dX4_reasoned_2 : decode cX4_reasoned 2 = .ok (.iload_n 2, 1) := by decide +kernel
theorem dX4_reasoned_3 : decode cX4_reasoned 3 = .ok (.invokevirtual 87, 3) := by decide +kernel
theorem dX4_reasoned_6 : decode cX4_reasoned 6 = .ok (.istore_n 3, 1) := by decide +kernel
theorem dX4_reasoned_7 : decode cX4_reasoned 7 = .ok (.iconst 0, 1) := by decide +kernel
theorem dX4_reasoned_8 : decode cX4_reasoned 8 = .ok (.istore 4, 2) := by decide +kernel
theorem dX4_reasoned_10 : decode cX4_reasoned 10 = .ok (.iload 4, 2) := by decide +kernel
theorem dX4_reasoned_12 : decode cX4_reasoned 12 = .ok (.aload_n 0, 1) := by decide +kernel
theorem dX4_reasoned_13 : decode cX4_reasoned 13 = .ok (.getfield 61, 3) := by decide +kernel
theorem dX4_reasoned_16 : decode cX4_reasoned 16 = .ok (.if_icmp .ge 51, 3) := by decide +kernel
theorem dX4_reasoned_19 : decode cX4_reasoned 19 = .ok (.aload_n 0, 1) := by decide +kernel
theorem dX4_reasoned_20 : decode cX4_reasoned 20 = .ok (.getfield 25, 3) := by decide +kernel
theorem dX4_reasoned_23 : decode cX4_reasoned 23 = .ok (.iload 4, 2) := by decide +kernel
theorem dX4_reasoned_25 : decode cX4_reasoned 25 = .ok (.iaload, 1) := by decide +kernel
theorem dX4_reasoned_26 : decode cX4_reasoned 26 = .ok (.iload_n 3, 1) := by decide +kernel
theorem dX4_reasoned_27 : decode cX4_reasoned 27 = .ok (.if_icmp .ne 34, 3) := by decide +kernel
theorem dX4_reasoned_30 : decode cX4_reasoned 30 = .ok (.aload_n 0, 1) := by decide +kernel
theorem dX4_reasoned_31 : decode cX4_reasoned 31 = .ok (.iload 4, 2) := by decide +kernel
theorem dX4_reasoned_33 : decode cX4_reasoned 33 = .ok (.aload_n 0, 1) := by decide +kernel
theorem dX4_reasoned_34 : decode cX4_reasoned 34 = .ok (.getfield 41, 3) := by decide +kernel
theorem dX4_reasoned_37 : decode cX4_reasoned 37 = .ok (.iload_n 1, 1) := by decide +kernel
theorem dX4_reasoned_38 : decode cX4_reasoned 38 = .ok (.iaload, 1) := by decide +kernel
theorem dX4_reasoned_39 : decode cX4_reasoned 39 = .ok (.iload_n 2, 1) := by decide +kernel
theorem dX4_reasoned_40 : decode cX4_reasoned 40 = .ok (.iadd, 1) := by decide +kernel
theorem dX4_reasoned_41 : decode cX4_reasoned 41 = .ok (.aload_n 0, 1) := by decide +kernel
theorem dX4_reasoned_42 : decode cX4_reasoned 42 = .ok (.getfield 35, 3) := by decide +kernel
theorem dX4_reasoned_45 : decode cX4_reasoned 45 = .ok (.aload_n 0, 1) := by decide +kernel
theorem dX4_reasoned_46 : decode cX4_reasoned 46 = .ok (.getfield 38, 3) := by decide +kernel
theorem dX4_reasoned_49 : decode cX4_reasoned 49 = .ok (.iload_n 1, 1) := by decide +kernel
theorem dX4_reasoned_50 : decode cX4_reasoned 50 = .ok (.iaload, 1) := by decide +kernel
theorem dX4_reasoned_51 : decode cX4_reasoned 51 = .ok (.iaload, 1) := by decide +kernel
theorem dX4_reasoned_52 : decode cX4_reasoned 52 = .ok (.invokevirtual 84, 3) := by decide +kernel
theorem dX4_reasoned_55 : decode cX4_reasoned 55 = .ok (.ifCond .eq 6, 3) := by decide +kernel
theorem dX4_reasoned_58 : decode cX4_reasoned 58 = .ok (.iload 4, 2) := by decide +kernel
theorem dX4_reasoned_60 : decode cX4_reasoned 60 = .ok (.ireturn, 1) := by decide +kernel
theorem dX4_reasoned_61 : decode cX4_reasoned 61 = .ok (.iinc 4 1, 3) := by decide +kernel
theorem dX4_reasoned_64 : decode cX4_reasoned 64 = .ok (.goto (-54), 3) := by decide +kernel
theorem dX4_reasoned_67 : decode cX4_reasoned 67 = .ok (.iload_n 3, 1) := by decide +kernel
theorem dX4_reasoned_68 : decode cX4_reasoned 68 = .ok (.bipush 100, 2) := by decide +kernel
theorem dX4_reasoned_70 : decode cX4_reasoned 70 = .ok (.if_icmp .le 16, 3) := by decide +kernel
theorem dX4_reasoned_73 : decode cX4_reasoned 73 = .ok (.iload_n 3, 1) := by decide +kernel
theorem dX4_reasoned_74 : decode cX4_reasoned 74 = .ok (.iload_n 2, 1) := by decide +kernel
theorem dX4_reasoned_75 : decode cX4_reasoned 75 = .ok (.invokestatic 81, 3) := by decide +kernel
theorem dX4_reasoned_78 : decode cX4_reasoned 78 = .ok (.if_icmp .ne 8, 3) := by decide +kernel
theorem dX4_reasoned_81 : decode cX4_reasoned 81 = .ok (.bipush (-2), 2) := by decide +kernel
theorem dX4_reasoned_83 : decode cX4_reasoned 83 = .ok (.goto 4, 3) := by decide +kernel
theorem dX4_reasoned_86 : decode cX4_reasoned 86 = .ok (.iconst (-1), 1) := by decide +kernel
theorem dX4_reasoned_87 : decode cX4_reasoned 87 = .ok (.ireturn, 1) := by decide +kernel
theorem dX4_lacks_0 : decode cX4_lacks 0 = .ok (.aload_n 0, 1) := by decide +kernel
theorem dX4_lacks_1 : decode cX4_lacks 1 = .ok (.getfield 44, 3) := by decide +kernel
theorem dX4_lacks_4 : decode cX4_lacks 4 = .ok (.iload_n 1, 1) := by decide +kernel
theorem dX4_lacks_5 : decode cX4_lacks 5 = .ok (.iaload, 1) := by decide +kernel
theorem dX4_lacks_6 : decode cX4_lacks 6 = .ok (.bipush 40, 2) := by decide +kernel
theorem dX4_lacks_8 : decode cX4_lacks 8 = .ok (.if_icmp .lt 7, 3) := by decide +kernel
theorem dX4_lacks_11 : decode cX4_lacks 11 = .ok (.iconst 2, 1) := by decide +kernel
theorem dX4_lacks_12 : decode cX4_lacks 12 = .ok (.goto 19, 3) := by decide +kernel
theorem dX4_lacks_15 : decode cX4_lacks 15 = .ok (.aload_n 0, 1) := by decide +kernel
theorem dX4_lacks_16 : decode cX4_lacks 16 = .ok (.getfield 44, 3) := by decide +kernel
theorem dX4_lacks_19 : decode cX4_lacks 19 = .ok (.iload_n 1, 1) := by decide +kernel
theorem dX4_lacks_20 : decode cX4_lacks 20 = .ok (.iaload, 1) := by decide +kernel
theorem dX4_lacks_21 : decode cX4_lacks 21 = .ok (.bipush 20, 2) := by decide +kernel
theorem dX4_lacks_23 : decode cX4_lacks 23 = .ok (.if_icmp .lt 7, 3) := by decide +kernel
theorem dX4_lacks_26 : decode cX4_lacks 26 = .ok (.iconst 1, 1) := by decide +kernel
theorem dX4_lacks_27 : decode cX4_lacks 27 = .ok (.goto 4, 3) := by decide +kernel
theorem dX4_lacks_30 : decode cX4_lacks 30 = .ok (.iconst 0, 1) := by decide +kernel
theorem dX4_lacks_31 : decode cX4_lacks 31 = .ok (.istore_n 2, 1) := by decide +kernel
theorem dX4_lacks_32 : decode cX4_lacks 32 = .ok (.aload_n 0, 1) := by decide +kernel
theorem dX4_lacks_33 : decode cX4_lacks 33 = .ok (.getfield 50, 3) := by decide +kernel
theorem dX4_lacks_36 : decode cX4_lacks 36 = .ok (.iload_n 1, 1) := by decide +kernel
theorem dX4_lacks_37 : decode cX4_lacks 37 = .ok (.baload, 1) := by decide +kernel
theorem dX4_lacks_38 : decode cX4_lacks 38 = .ok (.ifCond .ne 13, 3) := by decide +kernel
theorem dX4_lacks_41 : decode cX4_lacks 41 = .ok (.iload_n 2, 1) := by decide +kernel
theorem dX4_lacks_42 : decode cX4_lacks 42 = .ok (.aload_n 0, 1) := by decide +kernel
theorem dX4_lacks_43 : decode cX4_lacks 43 = .ok (.getfield 47, 3) := by decide +kernel
theorem dX4_lacks_46 : decode cX4_lacks 46 = .ok (.iload_n 1, 1) := by decide +kernel
theorem dX4_lacks_47 : decode cX4_lacks 47 = .ok (.iaload, 1) := by decide +kernel
theorem dX4_lacks_48 : decode cX4_lacks 48 = .ok (.if_icmp .ge 7, 3) := by decide +kernel
theorem dX4_lacks_51 : decode cX4_lacks 51 = .ok (.iconst 0, 1) := by decide +kernel
theorem dX4_lacks_52 : decode cX4_lacks 52 = .ok (.goto 11, 3) := by decide +kernel
theorem dX4_lacks_55 : decode cX4_lacks 55 = .ok (.iload_n 2, 1) := by decide +kernel
theorem dX4_lacks_56 : decode cX4_lacks 56 = .ok (.aload_n 0, 1) := by decide +kernel
theorem dX4_lacks_57 : decode cX4_lacks 57 = .ok (.getfield 47, 3) := by decide +kernel
theorem dX4_lacks_60 : decode cX4_lacks 60 = .ok (.iload_n 1, 1) := by decide +kernel
theorem dX4_lacks_61 : decode cX4_lacks 61 = .ok (.iaload, 1) := by decide +kernel
theorem dX4_lacks_62 : decode cX4_lacks 62 = .ok (.isub, 1) := by decide +kernel
theorem dX4_lacks_63 : decode cX4_lacks 63 = .ok (.ireturn, 1) := by decide +kernel
set_option maxRecDepth 20000 in
theorem ggX4_amount_X4_percented : GoodIn wsX4_amount wsX4_percented := goodIn_r _ [8, 9, 10, 11, 2, 3, 12, 13, 7, 14, 15, 16, 17, 18, 19, 20, 21, 22, 23, 24, 25, 26, 27, 28, 29, 30, 31, 32, 33, 34, 35, 36, 37, 38, 39, 40, 41, 42] (by decide +kernel) (by decide +kernel)
set_option maxRecDepth 20000 in
theorem gX4_amount_X4_percented : GoodIn wsX4_amount (wsV RX4 87 RX4 yX4_percented wsX4_percented) := goodIn_app (goodIn_of _ (by decide +kernel)) ggX4_amount_X4_percented
theorem dX4_amount_0 : decode cX4_amount 0 = .ok (.aload_n 0, 1) := by decide +kernel
theorem dX4_amount_1 : decode cX4_amount 1 = .ok (.getfield 7, 3) := by decide +kernel
theorem dX4_amount_4 : decode cX4_amount 4 = .ok (.aload_n 0, 1) := by decide +kernel
theorem dX4_amount_5 : decode cX4_amount 5 = .ok (.getfield 35, 3) := by decide +kernel
theorem dX4_amount_8 : decode cX4_amount 8 = .ok (.aload_n 0, 1) := by decide +kernel
theorem dX4_amount_9 : decode cX4_amount 9 = .ok (.getfield 38, 3) := by decide +kernel
theorem dX4_amount_12 : decode cX4_amount 12 = .ok (.iload_n 1, 1) := by decide +kernel
theorem dX4_amount_13 : decode cX4_amount 13 = .ok (.iaload, 1) := by decide +kernel
theorem dX4_amount_14 : decode cX4_amount 14 = .ok (.iaload, 1) := by decide +kernel
theorem dX4_amount_15 : decode cX4_amount 15 = .ok (.iaload, 1) := by decide +kernel
theorem dX4_amount_16 : decode cX4_amount 16 = .ok (.aload_n 0, 1) := by decide +kernel
theorem dX4_amount_17 : decode cX4_amount 17 = .ok (.iload_n 1, 1) := by decide +kernel
theorem dX4_amount_18 : decode cX4_amount 18 = .ok (.iload_n 2, 1) := by decide +kernel
theorem dX4_amount_19 : decode cX4_amount 19 = .ok (.invokevirtual 87, 3) := by decide +kernel
theorem dX4_amount_22 : decode cX4_amount 22 = .ok (.imul, 1) := by decide +kernel
theorem dX4_amount_23 : decode cX4_amount 23 = .ok (.bipush 100, 2) := by decide +kernel
theorem dX4_amount_25 : decode cX4_amount 25 = .ok (.idiv, 1) := by decide +kernel
theorem dX4_amount_26 : decode cX4_amount 26 = .ok (.ireturn, 1) := by decide +kernel
set_option maxRecDepth 20000 in
theorem ggX4_payed_X4_lacks : GoodIn wsX4_payed wsX4_lacks := goodIn_r _ [8, 9, 10, 11, 40, 41, 42, 43, 44, 45, 46, 47, 48, 49, 50, 51, 52, 53, 54, 55, 56, 57] (by decide +kernel) (by decide +kernel)
set_option maxRecDepth 20000 in
theorem gX4_payed_X4_lacks : GoodIn wsX4_payed (wsV RX4 91 RX4 yX4_lacks wsX4_lacks) := goodIn_app (goodIn_of _ (by decide +kernel)) ggX4_payed_X4_lacks
set_option maxRecDepth 20000 in
theorem ggX4_payed_X4_paid : GoodIn wsX4_payed wsX4_paid := goodIn_r _ [15, 10, 9, 40, 41, 42, 43, 44, 45, 46, 47, 48, 49, 50, 51, 52, 53, 54, 55, 56, 57] (by decide +kernel) (by decide +kernel)
set_option maxRecDepth 20000 in
theorem gX4_payed_X4_paid : GoodIn wsX4_payed (wsV RX4 94 RX4 yX4_paid wsX4_paid) := goodIn_app (goodIn_of _ (by decide +kernel)) ggX4_payed_X4_paid
set_option maxRecDepth 20000 in
theorem ggX4_payed_X4_amount : GoodIn wsX4_payed wsX4_amount := goodIn_r _ [19, 1, 2, 3, 20, 21, 22, 7, 23, 24, 25, 26, 27, 28, 29, 30, 31, 32, 33, 34, 35, 36, 37, 38, 39, 40, 41, 42, 43, 44, 45, 46, 47, 48, 49, 50, 51, 52, 53, 54, 55, 56, 57] (by decide +kernel) (by decide +kernel)
set_option maxRecDepth 20000 in
theorem gX4_payed_X4_amount : GoodIn wsX4_payed (wsV RX4 97 RX4 yX4_amount wsX4_amount) := goodIn_app (goodIn_of _ (by decide +kernel)) ggX4_payed_X4_amount
theorem dX4_payed_0 : decode cX4_payed 0 = .ok (.iconst 2, 1) := by decide +kernel
theorem dX4_payed_1 : decode cX4_payed 1 = .ok (.aload_n 0, 1) := by decide +kernel
theorem dX4_payed_2 : decode cX4_payed 2 = .ok (.iload_n 1, 1) := by decide +kernel
theorem dX4_payed_3 : decode cX4_payed 3 = .ok (.invokevirtual 91, 3) := by decide +kernel
theorem dX4_payed_6 : decode cX4_payed 6 = .ok (.imul, 1) := by decide +kernel
theorem dX4_payed_7 : decode cX4_payed 7 = .ok (.aload_n 0, 1) := by decide +kernel
theorem dX4_payed_8 : decode cX4_payed 8 = .ok (.getfield 7, 3) := by decide +kernel
theorem dX4_payed_11 : decode cX4_payed 11 = .ok (.aload_n 0, 1) := by decide +kernel
theorem dX4_payed_12 : decode cX4_payed 12 = .ok (.getfield 35, 3) := by decide +kernel
theorem dX4_payed_15 : decode cX4_payed 15 = .ok (.aload_n 0, 1) := by decide +kernel
theorem dX4_payed_16 : decode cX4_payed 16 = .ok (.getfield 38, 3) := by decide +kernel
theorem dX4_payed_19 : decode cX4_payed 19 = .ok (.iload_n 1, 1) := by decide +kernel
theorem dX4_payed_20 : decode cX4_payed 20 = .ok (.iaload, 1) := by decide +kernel
theorem dX4_payed_21 : decode cX4_payed 21 = .ok (.iaload, 1) := by decide +kernel
theorem dX4_payed_22 : decode cX4_payed 22 = .ok (.iaload, 1) := by decide +kernel
theorem dX4_payed_23 : decode cX4_payed 23 = .ok (.imul, 1) := by decide +kernel
theorem dX4_payed_24 : decode cX4_payed 24 = .ok (.istore_n 2, 1) := by decide +kernel
theorem dX4_payed_25 : decode cX4_payed 25 = .ok (.iconst 0, 1) := by decide +kernel
theorem dX4_payed_26 : decode cX4_payed 26 = .ok (.istore_n 3, 1) := by decide +kernel
theorem dX4_payed_27 : decode cX4_payed 27 = .ok (.iload_n 3, 1) := by decide +kernel
theorem dX4_payed_28 : decode cX4_payed 28 = .ok (.aload_n 0, 1) := by decide +kernel
theorem dX4_payed_29 : decode cX4_payed 29 = .ok (.iload_n 1, 1) := by decide +kernel
theorem dX4_payed_30 : decode cX4_payed 30 = .ok (.invokevirtual 94, 3) := by decide +kernel
theorem dX4_payed_33 : decode cX4_payed 33 = .ok (.if_icmp .ge 18, 3) := by decide +kernel
theorem dX4_payed_36 : decode cX4_payed 36 = .ok (.iload_n 2, 1) := by decide +kernel
theorem dX4_payed_37 : decode cX4_payed 37 = .ok (.aload_n 0, 1) := by decide +kernel
theorem dX4_payed_38 : decode cX4_payed 38 = .ok (.iload_n 1, 1) := by decide +kernel
theorem dX4_payed_39 : decode cX4_payed 39 = .ok (.iload_n 3, 1) := by decide +kernel
theorem dX4_payed_40 : decode cX4_payed 40 = .ok (.invokevirtual 97, 3) := by decide +kernel
theorem dX4_payed_43 : decode cX4_payed 43 = .ok (.iadd, 1) := by decide +kernel
theorem dX4_payed_44 : decode cX4_payed 44 = .ok (.istore_n 2, 1) := by decide +kernel
theorem dX4_payed_45 : decode cX4_payed 45 = .ok (.iinc 3 1, 3) := by decide +kernel
theorem dX4_payed_48 : decode cX4_payed 48 = .ok (.goto (-21), 3) := by decide +kernel
theorem dX4_payed_51 : decode cX4_payed 51 = .ok (.iload_n 2, 1) := by decide +kernel
theorem dX4_payed_52 : decode cX4_payed 52 = .ok (.ireturn, 1) := by decide +kernel
set_option maxRecDepth 20000 in
theorem ggX4_paidQuarters_X4_isShift : GoodIn wsX4_paidQuarters wsX4_isShift := goodIn_r _ [5, 6, 7, 8, 9, 4, 10, 17, 18, 19, 20, 21, 22, 23, 24, 25, 26, 27, 28, 29, 30, 31, 32, 33, 34] (by decide +kernel) (by decide +kernel)
set_option maxRecDepth 20000 in
theorem gX4_paidQuarters_X4_isShift : GoodIn wsX4_paidQuarters (wsV RX4 74 RX4 yX4_isShift wsX4_isShift) := goodIn_app (goodIn_of _ (by decide +kernel)) ggX4_paidQuarters_X4_isShift
set_option maxRecDepth 20000 in
theorem ggX4_paidQuarters_X4_paid : GoodIn wsX4_paidQuarters wsX4_paid := goodIn_r _ [14, 15, 16, 17, 18, 19, 20, 21, 22, 23, 24, 25, 26, 27, 28, 29, 30, 31, 32, 33, 34] (by decide +kernel) (by decide +kernel)
set_option maxRecDepth 20000 in
theorem gX4_paidQuarters_X4_paid : GoodIn wsX4_paidQuarters (wsV RX4 94 RX4 yX4_paid wsX4_paid) := goodIn_app (goodIn_of _ (by decide +kernel)) ggX4_paidQuarters_X4_paid
theorem dX4_paidQuarters_0 : decode cX4_paidQuarters 0 = .ok (.aload_n 0, 1) := by decide +kernel
theorem dX4_paidQuarters_1 : decode cX4_paidQuarters 1 = .ok (.iload_n 1, 1) := by decide +kernel
theorem dX4_paidQuarters_2 : decode cX4_paidQuarters 2 = .ok (.invokevirtual 74, 3) := by decide +kernel
theorem dX4_paidQuarters_5 : decode cX4_paidQuarters 5 = .ok (.ifCond .eq 11, 3) := by decide +kernel
theorem dX4_paidQuarters_8 : decode cX4_paidQuarters 8 = .ok (.aload_n 0, 1) := by decide +kernel
theorem dX4_paidQuarters_9 : decode cX4_paidQuarters 9 = .ok (.iload_n 1, 1) := by decide +kernel
theorem dX4_paidQuarters_10 : decode cX4_paidQuarters 10 = .ok (.invokevirtual 94, 3) := by decide +kernel
theorem dX4_paidQuarters_13 : decode cX4_paidQuarters 13 = .ok (.goto 4, 3) := by decide +kernel
theorem dX4_paidQuarters_16 : decode cX4_paidQuarters 16 = .ok (.iconst 0, 1) := by decide +kernel
theorem dX4_paidQuarters_17 : decode cX4_paidQuarters 17 = .ok (.ireturn, 1) := by decide +kernel
set_option maxRecDepth 20000 in
theorem ggX4_isQuarter_X4_isShift : GoodIn wsX4_isQuarter wsX4_isShift := goodIn_r _ [6, 7, 1, 8, 9, 5, 10, 17, 18, 19, 20, 21, 22, 23, 24, 25, 26, 27, 28, 29, 30, 31, 32, 33, 34] (by decide +kernel) (by decide +kernel)
set_option maxRecDepth 20000 in
theorem gX4_isQuarter_X4_isShift : GoodIn wsX4_isQuarter (wsV RX4 74 RX4 yX4_isShift wsX4_isShift) := goodIn_app (goodIn_of _ (by decide +kernel)) ggX4_isQuarter_X4_isShift
set_option maxRecDepth 20000 in
theorem ggX4_isQuarter_X4_paid : GoodIn wsX4_isQuarter wsX4_paid := goodIn_r _ [14, 15, 16, 17, 18, 19, 20, 21, 22, 23, 24, 25, 26, 27, 28, 29, 30, 31, 32, 33, 34] (by decide +kernel) (by decide +kernel)
set_option maxRecDepth 20000 in
theorem gX4_isQuarter_X4_paid : GoodIn wsX4_isQuarter (wsV RX4 94 RX4 yX4_paid wsX4_paid) := goodIn_app (goodIn_of _ (by decide +kernel)) ggX4_isQuarter_X4_paid
set_option maxRecDepth 20000 in
theorem ggX4_isQuarter_X4_isIn : GoodIn wsX4_isQuarter wsX4_isIn := goodIn_r _ [10] (by decide +kernel) (by decide +kernel)
set_option maxRecDepth 20000 in
theorem gX4_isQuarter_X4_isIn : GoodIn wsX4_isQuarter (va_wsS RX4 57 yX4_isIn wsX4_isIn) := goodIn_app (goodIn_of _ (by decide +kernel)) ggX4_isQuarter_X4_isIn
theorem dX4_isQuarter_0 : decode cX4_isQuarter 0 = .ok (.aload_n 0, 1) := by decide +kernel
theorem dX4_isQuarter_1 : decode cX4_isQuarter 1 = .ok (.iload_n 1, 1) := by decide +kernel
theorem dX4_isQuarter_2 : decode cX4_isQuarter 2 = .ok (.invokevirtual 74, 3) := by decide +kernel
theorem dX4_isQuarter_5 : decode cX4_isQuarter 5 = .ok (.ifCond .eq 22, 3) := by decide +kernel
theorem dX4_isQuarter_8 : decode cX4_isQuarter 8 = .ok (.iload_n 2, 1) := by decide +kernel
theorem dX4_isQuarter_9 : decode cX4_isQuarter 9 = .ok (.iconst 0, 1) := by decide +kernel
theorem dX4_isQuarter_10 : decode cX4_isQuarter 10 = .ok (.aload_n 0, 1) := by decide +kernel
theorem dX4_isQuarter_11 : decode cX4_isQuarter 11 = .ok (.iload_n 1, 1) := by decide +kernel
theorem dX4_isQuarter_12 : decode cX4_isQuarter 12 = .ok (.invokevirtual 94, 3) := by decide +kernel
theorem dX4_isQuarter_15 : decode cX4_isQuarter 15 = .ok (.iconst 1, 1) := by decide +kernel
theorem dX4_isQuarter_16 : decode cX4_isQuarter 16 = .ok (.isub, 1) := by decide +kernel
theorem dX4_isQuarter_17 : decode cX4_isQuarter 17 = .ok (.invokestatic 57, 3) := by decide +kernel
theorem dX4_isQuarter_20 : decode cX4_isQuarter 20 = .ok (.ifCond .eq 7, 3) := by decide +kernel
theorem dX4_isQuarter_23 : decode cX4_isQuarter 23 = .ok (.iconst 1, 1) := by decide +kernel
theorem dX4_isQuarter_24 : decode cX4_isQuarter 24 = .ok (.goto 4, 3) := by decide +kernel
theorem dX4_isQuarter_27 : decode cX4_isQuarter 27 = .ok (.iconst 0, 1) := by decide +kernel
theorem dX4_isQuarter_28 : decode cX4_isQuarter 28 = .ok (.istore_n 3, 1) := by decide +kernel
theorem dX4_isQuarter_29 : decode cX4_isQuarter 29 = .ok (.aload_n 0, 1) := by decide +kernel
theorem dX4_isQuarter_30 : decode cX4_isQuarter 30 = .ok (.iload_n 3, 1) := by decide +kernel
theorem dX4_isQuarter_31 : decode cX4_isQuarter 31 = .ok (.ifCond .eq 7, 3) := by decide +kernel
theorem dX4_isQuarter_34 : decode cX4_isQuarter 34 = .ok (.iconst 0, 1) := by decide +kernel
theorem dX4_isQuarter_35 : decode cX4_isQuarter 35 = .ok (.goto 4, 3) := by decide +kernel
theorem dX4_isQuarter_38 : decode cX4_isQuarter 38 = .ok (.iconst 1, 1) := by decide +kernel
theorem dX4_isQuarter_39 : decode cX4_isQuarter 39 = .ok (.putfield 53, 3) := by decide +kernel
theorem dX4_isQuarter_42 : decode cX4_isQuarter 42 = .ok (.iload_n 3, 1) := by decide +kernel
theorem dX4_isQuarter_43 : decode cX4_isQuarter 43 = .ok (.ireturn, 1) := by decide +kernel
set_option maxRecDepth 20000 in
theorem ggX4_percentAt_X4_isQuarter : GoodIn wsX4_percentAt wsX4_isQuarter := goodIn_r _ [5, 6, 7, 8, 9, 4, 10, 11, 12, 13, 14, 15, 16, 17, 18, 19, 20, 43, 44, 45, 46, 47, 48, 49, 50, 51, 52, 53, 54, 55, 56, 57, 58, 59, 60] (by decide +kernel) (by decide +kernel)
set_option maxRecDepth 20000 in
theorem gX4_percentAt_X4_isQuarter : GoodIn wsX4_percentAt (wsV RX4 100 RX4 yX4_isQuarter wsX4_isQuarter) := goodIn_app (goodIn_of _ (by decide +kernel)) ggX4_percentAt_X4_isQuarter
set_option maxRecDepth 20000 in
theorem ggX4_percentAt_X4_percented : GoodIn wsX4_percentAt wsX4_percented := goodIn_r _ [24, 25, 26, 27, 28, 29, 30, 31, 4, 32, 33, 34, 35, 36, 37, 38, 39, 40, 41, 42, 43, 44, 45, 46, 47, 48, 49, 50, 51, 52, 53, 54, 55, 56, 57, 58, 59, 60] (by decide +kernel) (by decide +kernel)
set_option maxRecDepth 20000 in
theorem gX4_percentAt_X4_percented : GoodIn wsX4_percentAt (wsV RX4 87 RX4 yX4_percented wsX4_percented) := goodIn_app (goodIn_of _ (by decide +kernel)) ggX4_percentAt_X4_percented
theorem dX4_percentAt_0 : decode cX4_percentAt 0 = .ok (.aload_n 0, 1) := by decide +kernel
theorem dX4_percentAt_1 : decode cX4_percentAt 1 = .ok (.iload_n 1, 1) := by decide +kernel
theorem dX4_percentAt_2 : decode cX4_percentAt 2 = .ok (.iload_n 2, 1) := by decide +kernel
theorem dX4_percentAt_3 : decode cX4_percentAt 3 = .ok (.invokevirtual 100, 3) := by decide +kernel
theorem dX4_percentAt_6 : decode cX4_percentAt 6 = .ok (.ifCond .eq 12, 3) := by decide +kernel
theorem dX4_percentAt_9 : decode cX4_percentAt 9 = .ok (.aload_n 0, 1) := by decide +kernel
theorem dX4_percentAt_10 : decode cX4_percentAt 10 = .ok (.iload_n 1, 1) := by decide +kernel
theorem dX4_percentAt_11 : decode cX4_percentAt 11 = .ok (.iload_n 2, 1) := by decide +kernel
theorem dX4_percentAt_12 : decode cX4_percentAt 12 = .ok (.invokevirtual 87, 3) := by decide +kernel
theorem dX4_percentAt_15 : decode cX4_percentAt 15 = .ok (.goto 4, 3) := by decide +kernel
theorem dX4_percentAt_18 : decode cX4_percentAt 18 = .ok (.iconst 0, 1) := by decide +kernel
theorem dX4_percentAt_19 : decode cX4_percentAt 19 = .ok (.ireturn, 1) := by decide +kernel
set_option maxRecDepth 20000 in
theorem ggX4_reasonAt_X4_isQuarter : GoodIn wsX4_reasonAt wsX4_isQuarter := goodIn_r _ [5, 6, 7, 8, 9, 4, 10, 11, 12, 13, 14, 15, 16, 17, 18, 19, 20, 47, 48, 49, 50, 51, 52, 53, 54, 55, 56, 57, 58, 59, 60, 61, 62, 63, 64] (by decide +kernel) (by decide +kernel)
set_option maxRecDepth 20000 in
theorem gX4_reasonAt_X4_isQuarter : GoodIn wsX4_reasonAt (wsV RX4 100 RX4 yX4_isQuarter wsX4_isQuarter) := goodIn_app (goodIn_of _ (by decide +kernel)) ggX4_reasonAt_X4_isQuarter
set_option maxRecDepth 20000 in
theorem ggX4_reasonAt_X4_reasoned : GoodIn wsX4_reasonAt wsX4_reasoned := goodIn_r _ [24, 25, 26, 27, 28, 29, 30, 31, 32, 4, 33, 34, 35, 36, 37, 38, 39, 40, 41, 42, 43, 44, 45, 46, 47, 48, 49, 50, 51, 52, 53, 54, 55, 56, 57, 58, 59, 60, 61, 62, 63, 64] (by decide +kernel) (by decide +kernel)
set_option maxRecDepth 20000 in
theorem gX4_reasonAt_X4_reasoned : GoodIn wsX4_reasonAt (wsV RX4 104 RX4 yX4_reasoned wsX4_reasoned) := goodIn_app (goodIn_of _ (by decide +kernel)) ggX4_reasonAt_X4_reasoned
theorem dX4_reasonAt_0 : decode cX4_reasonAt 0 = .ok (.aload_n 0, 1) := by decide +kernel
theorem dX4_reasonAt_1 : decode cX4_reasonAt 1 = .ok (.iload_n 1, 1) := by decide +kernel
theorem dX4_reasonAt_2 : decode cX4_reasonAt 2 = .ok (.iload_n 2, 1) := by decide +kernel
theorem dX4_reasonAt_3 : decode cX4_reasonAt 3 = .ok (.invokevirtual 100, 3) := by decide +kernel
theorem dX4_reasonAt_6 : decode cX4_reasonAt 6 = .ok (.ifCond .eq 12, 3) := by decide +kernel
theorem dX4_reasonAt_9 : decode cX4_reasonAt 9 = .ok (.aload_n 0, 1) := by decide +kernel
theorem dX4_reasonAt_10 : decode cX4_reasonAt 10 = .ok (.iload_n 1, 1) := by decide +kernel
theorem dX4_reasonAt_11 : decode cX4_reasonAt 11 = .ok (.iload_n 2, 1) := by decide +kernel
theorem dX4_reasonAt_12 : decode cX4_reasonAt 12 = .ok (.invokevirtual 104, 3) := by decide +kernel
theorem dX4_reasonAt_15 : decode cX4_reasonAt 15 = .ok (.goto 4, 3) := by decide +kernel
theorem dX4_reasonAt_18 : decode cX4_reasonAt 18 = .ok (.iconst 0, 1) := by decide +kernel
theorem dX4_reasonAt_19 : decode cX4_reasonAt 19 = .ok (.ireturn, 1) := by decide +kernel
set_option maxRecDepth 20000 in
theorem ggX4_missed_X4_isShift : GoodIn wsX4_missed wsX4_isShift := goodIn_r _ [5, 6, 7, 8, 9, 4, 10, 18, 19, 20, 21, 22, 23, 24, 25, 26, 27, 28, 29, 30, 31, 32, 33, 34, 35] (by decide +kernel) (by decide +kernel)
set_option maxRecDepth 20000 in
theorem gX4_missed_X4_isShift : GoodIn wsX4_missed (wsV RX4 74 RX4 yX4_isShift wsX4_isShift) := goodIn_app (goodIn_of _ (by decide +kernel)) ggX4_missed_X4_isShift
set_option maxRecDepth 20000 in
theorem ggX4_missed_X4_lacks : GoodIn wsX4_missed wsX4_lacks := goodIn_r _ [14, 15, 16, 17, 18, 19, 20, 21, 22, 23, 24, 25, 26, 27, 28, 29, 30, 31, 32, 33, 34, 35] (by decide +kernel) (by decide +kernel)
set_option maxRecDepth 20000 in
theorem gX4_missed_X4_lacks : GoodIn wsX4_missed (wsV RX4 91 RX4 yX4_lacks wsX4_lacks) := goodIn_app (goodIn_of _ (by decide +kernel)) ggX4_missed_X4_lacks
theorem dX4_missed_0 : decode cX4_missed 0 = .ok (.aload_n 0, 1) := by decide +kernel
theorem dX4_missed_1 : decode cX4_missed 1 = .ok (.iload_n 1, 1) := by decide +kernel
theorem dX4_missed_2 : decode cX4_missed 2 = .ok (.invokevirtual 74, 3) := by decide +kernel
theorem dX4_missed_5 : decode cX4_missed 5 = .ok (.ifCond .eq 11, 3) := by decide +kernel
theorem dX4_missed_8 : decode cX4_missed 8 = .ok (.aload_n 0, 1) := by decide +kernel
theorem dX4_missed_9 : decode cX4_missed 9 = .ok (.iload_n 1, 1) := by decide +kernel
theorem dX4_missed_10 : decode cX4_missed 10 = .ok (.invokevirtual 91, 3) := by decide +kernel
theorem dX4_missed_13 : decode cX4_missed 13 = .ok (.goto 4, 3) := by decide +kernel
theorem dX4_missed_16 : decode cX4_missed 16 = .ok (.iconst 0, 1) := by decide +kernel
theorem dX4_missed_17 : decode cX4_missed 17 = .ok (.ireturn, 1) := by decide +kernel
set_option maxRecDepth 20000 in
theorem ggX4_pay_X4_isShift : GoodIn wsX4_pay wsX4_isShift := goodIn_r _ [5, 6, 7, 8, 9, 4, 10, 53, 54, 55, 56, 57, 58, 59, 60, 61, 62, 63, 64, 65, 66, 67, 68, 69, 70] (by decide +kernel) (by decide +kernel)
set_option maxRecDepth 20000 in
theorem gX4_pay_X4_isShift : GoodIn wsX4_pay (wsV RX4 74 RX4 yX4_isShift wsX4_isShift) := goodIn_app (goodIn_of _ (by decide +kernel)) ggX4_pay_X4_isShift
set_option maxRecDepth 20000 in
theorem ggX4_pay_X4_payed : GoodIn wsX4_pay wsX4_payed := goodIn_r _ [14, 15, 16, 17, 18, 19, 20, 4, 21, 22, 23, 24, 25, 26, 27, 28, 29, 30, 31, 32, 33, 34, 35, 36, 37, 38, 39, 40, 41, 42, 43, 44, 45, 46, 47, 48, 49, 50, 51, 52, 53, 54, 55, 56, 57, 58, 59, 60, 61, 62, 63, 64, 65, 66, 67, 68, 69, 70] (by decide +kernel) (by decide +kernel)
set_option maxRecDepth 20000 in
theorem gX4_pay_X4_payed : GoodIn wsX4_pay (wsV RX4 77 RX4 yX4_payed wsX4_payed) := goodIn_app (goodIn_of _ (by decide +kernel)) ggX4_pay_X4_payed
theorem dX4_pay_0 : decode cX4_pay 0 = .ok (.aload_n 0, 1) := by decide +kernel
theorem dX4_pay_1 : decode cX4_pay 1 = .ok (.iload_n 1, 1) := by decide +kernel
theorem dX4_pay_2 : decode cX4_pay 2 = .ok (.invokevirtual 74, 3) := by decide +kernel
theorem dX4_pay_5 : decode cX4_pay 5 = .ok (.ifCond .eq 11, 3) := by decide +kernel
theorem dX4_pay_8 : decode cX4_pay 8 = .ok (.aload_n 0, 1) := by decide +kernel
theorem dX4_pay_9 : decode cX4_pay 9 = .ok (.iload_n 1, 1) := by decide +kernel
theorem dX4_pay_10 : decode cX4_pay 10 = .ok (.invokevirtual 77, 3) := by decide +kernel
theorem dX4_pay_13 : decode cX4_pay 13 = .ok (.goto 4, 3) := by decide +kernel
theorem dX4_pay_16 : decode cX4_pay 16 = .ok (.iconst 0, 1) := by decide +kernel
theorem dX4_pay_17 : decode cX4_pay 17 = .ok (.ireturn, 1) := by decide +kernel
set_option maxRecDepth 20000 in
theorem ggX4_payOf_X4_isWorker : GoodIn wsX4_payOf wsX4_isWorker := goodIn_r _ [9, 10, 11, 12, 8, 13, 54, 55, 56, 57, 58, 59, 60, 61, 62, 63, 64, 65, 66, 67, 68, 69, 70, 71] (by decide +kernel) (by decide +kernel)
set_option maxRecDepth 20000 in
theorem gX4_payOf_X4_isWorker : GoodIn wsX4_payOf (wsV RX4 70 RX4 yX4_isWorker wsX4_isWorker) := goodIn_app (goodIn_of _ (by decide +kernel)) ggX4_payOf_X4_isWorker
set_option maxRecDepth 20000 in
theorem ggX4_payOf_X4_isIn : GoodIn wsX4_payOf wsX4_isIn := goodIn_r _ [13] (by decide +kernel) (by decide +kernel)
set_option maxRecDepth 20000 in
theorem gX4_payOf_X4_isIn : GoodIn wsX4_payOf (va_wsS RX4 57 yX4_isIn wsX4_isIn) := goodIn_app (goodIn_of _ (by decide +kernel)) ggX4_payOf_X4_isIn
set_option maxRecDepth 20000 in
theorem ggX4_payOf_X4_payed : GoodIn wsX4_payOf wsX4_payed := goodIn_r _ [17, 18, 19, 3, 20, 21, 22, 8, 23, 24, 25, 26, 27, 28, 29, 30, 31, 32, 33, 34, 35, 36, 37, 38, 39, 40, 4, 41, 42, 43, 44, 45, 46, 47, 48, 49, 50, 51, 52, 53, 54, 55, 56, 57, 58, 59, 60, 61, 62, 63, 64, 65, 66, 67, 68, 69, 70, 71] (by decide +kernel) (by decide +kernel)
set_option maxRecDepth 20000 in
theorem gX4_payOf_X4_payed : GoodIn wsX4_payOf (wsV RX4 77 RX4 yX4_payed wsX4_payed) := goodIn_app (goodIn_of _ (by decide +kernel)) ggX4_payOf_X4_payed
theorem dX4_payOf_0 : decode cX4_payOf 0 = .ok (.aload_n 0, 1) := by decide +kernel
theorem dX4_payOf_1 : decode cX4_payOf 1 = .ok (.aload_n 0, 1) := by decide +kernel
theorem dX4_payOf_2 : decode cX4_payOf 2 = .ok (.iload_n 1, 1) := by decide +kernel
theorem dX4_payOf_3 : decode cX4_payOf 3 = .ok (.invokevirtual 70, 3) := by decide +kernel
theorem dX4_payOf_6 : decode cX4_payOf 6 = .ok (.ifCond .ne 7, 3) := by decide +kernel
theorem dX4_payOf_9 : decode cX4_payOf 9 = .ok (.iconst 1, 1) := by decide +kernel
theorem dX4_payOf_10 : decode cX4_payOf 10 = .ok (.goto 30, 3) := by decide +kernel
theorem dX4_payOf_13 : decode cX4_payOf 13 = .ok (.iload_n 2, 1) := by decide +kernel
theorem dX4_payOf_14 : decode cX4_payOf 14 = .ok (.iconst 0, 1) := by decide +kernel
theorem dX4_payOf_15 : decode cX4_payOf 15 = .ok (.sipush 363, 3) := by decide +kernel
theorem dX4_payOf_18 : decode cX4_payOf 18 = .ok (.invokestatic 57, 3) := by decide +kernel
theorem dX4_payOf_21 : decode cX4_payOf 21 = .ok (.ifCond .eq 18, 3) := by decide +kernel
theorem dX4_payOf_24 : decode cX4_payOf 24 = .ok (.iload_n 3, 1) := by decide +kernel
theorem dX4_payOf_25 : decode cX4_payOf 25 = .ok (.iload_n 2, 1) := by decide +kernel
theorem dX4_payOf_26 : decode cX4_payOf 26 = .ok (.sipush 363, 3) := by decide +kernel
theorem dX4_payOf_29 : decode cX4_payOf 29 = .ok (.invokestatic 57, 3) := by decide +kernel
theorem dX4_payOf_32 : decode cX4_payOf 32 = .ok (.ifCond .eq 7, 3) := by decide +kernel
theorem dX4_payOf_35 : decode cX4_payOf 35 = .ok (.iconst 0, 1) := by decide +kernel
theorem dX4_payOf_36 : decode cX4_payOf 36 = .ok (.goto 4, 3) := by decide +kernel
theorem dX4_payOf_39 : decode cX4_payOf 39 = .ok (.iconst 2, 1) := by decide +kernel
theorem dX4_payOf_40 : decode cX4_payOf 40 = .ok (.putfield 53, 3) := by decide +kernel
theorem dX4_payOf_43 : decode cX4_payOf 43 = .ok (.iconst 0, 1) := by decide +kernel
theorem dX4_payOf_44 : decode cX4_payOf 44 = .ok (.istore 4, 2) := by decide +kernel
theorem dX4_payOf_46 : decode cX4_payOf 46 = .ok (.iconst 0, 1) := by decide +kernel
theorem dX4_payOf_47 : decode cX4_payOf 47 = .ok (.istore 5, 2) := by decide +kernel
theorem dX4_payOf_49 : decode cX4_payOf 49 = .ok (.iload 5, 2) := by decide +kernel
theorem dX4_payOf_51 : decode cX4_payOf 51 = .ok (.aload_n 0, 1) := by decide +kernel
theorem dX4_payOf_52 : decode cX4_payOf 52 = .ok (.getfield 67, 3) := by decide +kernel
theorem dX4_payOf_55 : decode cX4_payOf 55 = .ok (.if_icmp .ge 60, 3) := by decide +kernel
theorem dX4_payOf_58 : decode cX4_payOf 58 = .ok (.aload_n 0, 1) := by decide +kernel
theorem dX4_payOf_59 : decode cX4_payOf 59 = .ok (.getfield 53, 3) := by decide +kernel
theorem dX4_payOf_62 : decode cX4_payOf 62 = .ok (.ifCond .ne 53, 3) := by decide +kernel
theorem dX4_payOf_65 : decode cX4_payOf 65 = .ok (.iload 4, 2) := by decide +kernel
theorem dX4_payOf_67 : decode cX4_payOf 67 = .ok (.aload_n 0, 1) := by decide +kernel
theorem dX4_payOf_68 : decode cX4_payOf 68 = .ok (.getfield 38, 3) := by decide +kernel
theorem dX4_payOf_71 : decode cX4_payOf 71 = .ok (.iload 5, 2) := by decide +kernel
theorem dX4_payOf_73 : decode cX4_payOf 73 = .ok (.iaload, 1) := by decide +kernel
theorem dX4_payOf_74 : decode cX4_payOf 74 = .ok (.iload_n 1, 1) := by decide +kernel
theorem dX4_payOf_75 : decode cX4_payOf 75 = .ok (.if_icmp .ne 30, 3) := by decide +kernel
theorem dX4_payOf_78 : decode cX4_payOf 78 = .ok (.aload_n 0, 1) := by decide +kernel
theorem dX4_payOf_79 : decode cX4_payOf 79 = .ok (.getfield 41, 3) := by decide +kernel
theorem dX4_payOf_82 : decode cX4_payOf 82 = .ok (.iload 5, 2) := by decide +kernel
theorem dX4_payOf_84 : decode cX4_payOf 84 = .ok (.iaload, 1) := by decide +kernel
theorem dX4_payOf_85 : decode cX4_payOf 85 = .ok (.bipush 96, 2) := by decide +kernel
theorem dX4_payOf_87 : decode cX4_payOf 87 = .ok (.idiv, 1) := by decide +kernel
theorem dX4_payOf_88 : decode cX4_payOf 88 = .ok (.iload_n 2, 1) := by decide +kernel
theorem dX4_payOf_89 : decode cX4_payOf 89 = .ok (.iload_n 3, 1) := by decide +kernel
theorem dX4_payOf_90 : decode cX4_payOf 90 = .ok (.invokestatic 57, 3) := by decide +kernel
theorem dX4_payOf_93 : decode cX4_payOf 93 = .ok (.ifCond .eq 12, 3) := by decide +kernel
theorem dX4_payOf_96 : decode cX4_payOf 96 = .ok (.aload_n 0, 1) := by decide +kernel
theorem dX4_payOf_97 : decode cX4_payOf 97 = .ok (.iload 5, 2) := by decide +kernel
theorem dX4_payOf_99 : decode cX4_payOf 99 = .ok (.invokevirtual 77, 3) := by decide +kernel
theorem dX4_payOf_102 : decode cX4_payOf 102 = .ok (.goto 4, 3) := by decide +kernel
theorem dX4_payOf_105 : decode cX4_payOf 105 = .ok (.iconst 0, 1) := by decide +kernel
theorem dX4_payOf_106 : decode cX4_payOf 106 = .ok (.iadd, 1) := by decide +kernel
theorem dX4_payOf_107 : decode cX4_payOf 107 = .ok (.istore 4, 2) := by decide +kernel
theorem dX4_payOf_109 : decode cX4_payOf 109 = .ok (.iinc 5 1, 3) := by decide +kernel
theorem dX4_payOf_112 : decode cX4_payOf 112 = .ok (.goto (-63), 3) := by decide +kernel
theorem dX4_payOf_115 : decode cX4_payOf 115 = .ok (.iload 4, 2) := by decide +kernel
theorem dX4_payOf_117 : decode cX4_payOf 117 = .ok (.ireturn, 1) := by decide +kernel
set_option maxRecDepth 20000 in
theorem ggX4_paidBy_X4_isIn : GoodIn wsX4_paidBy wsX4_isIn := goodIn_r _ [7] (by decide +kernel) (by decide +kernel)
set_option maxRecDepth 20000 in
theorem gX4_paidBy_X4_isIn : GoodIn wsX4_paidBy (va_wsS RX4 57 yX4_isIn wsX4_isIn) := goodIn_app (goodIn_of _ (by decide +kernel)) ggX4_paidBy_X4_isIn
set_option maxRecDepth 20000 in
theorem ggX4_paidBy_X4_paid : GoodIn wsX4_paidBy wsX4_paid := goodIn_r _ [11, 12, 13, 44, 45, 46, 47, 48, 49, 50, 51, 52, 53, 54, 55, 56, 57, 58, 59, 60, 61] (by decide +kernel) (by decide +kernel)
set_option maxRecDepth 20000 in
theorem gX4_paidBy_X4_paid : GoodIn wsX4_paidBy (wsV RX4 94 RX4 yX4_paid wsX4_paid) := goodIn_app (goodIn_of _ (by decide +kernel)) ggX4_paidBy_X4_paid
set_option maxRecDepth 20000 in
theorem ggX4_paidBy_X4_reasoned : GoodIn wsX4_paidBy wsX4_reasoned := goodIn_r _ [17, 1, 18, 19, 20, 21, 22, 23, 24, 6, 25, 26, 27, 28, 29, 30, 31, 32, 33, 34, 35, 36, 37, 38, 44, 45, 46, 47, 48, 49, 50, 51, 52, 53, 54, 55, 56, 57, 58, 59, 60, 61] (by decide +kernel) (by decide +kernel)
set_option maxRecDepth 20000 in
theorem gX4_paidBy_X4_reasoned : GoodIn wsX4_paidBy (wsV RX4 104 RX4 yX4_reasoned wsX4_reasoned) := goodIn_app (goodIn_of _ (by decide +kernel)) ggX4_paidBy_X4_reasoned
set_option maxRecDepth 20000 in
theorem ggX4_paidBy_X4_amount : GoodIn wsX4_paidBy wsX4_amount := goodIn_r _ [42, 43, 20, 21, 22, 23, 24, 6, 25, 1, 18, 19, 26, 27, 28, 29, 30, 31, 32, 33, 34, 35, 36, 37, 38, 44, 45, 46, 47, 48, 49, 50, 51, 52, 53, 54, 55, 56, 57, 58, 59, 60, 61] (by decide +kernel) (by decide +kernel)
set_option maxRecDepth 20000 in
theorem gX4_paidBy_X4_amount : GoodIn wsX4_paidBy (wsV RX4 97 RX4 yX4_amount wsX4_amount) := goodIn_app (goodIn_of _ (by decide +kernel)) ggX4_paidBy_X4_amount
theorem dX4_paidBy_0 : decode cX4_paidBy 0 = .ok (.aload_n 0, 1) := by decide +kernel
theorem dX4_paidBy_1 : decode cX4_paidBy 1 = .ok (.iload_n 1, 1) := by decide +kernel
theorem dX4_paidBy_2 : decode cX4_paidBy 2 = .ok (.iconst 0, 1) := by decide +kernel
theorem dX4_paidBy_3 : decode cX4_paidBy 3 = .ok (.aload_n 0, 1) := by decide +kernel
theorem dX4_paidBy_4 : decode cX4_paidBy 4 = .ok (.getfield 61, 3) := by decide +kernel
theorem dX4_paidBy_7 : decode cX4_paidBy 7 = .ok (.iconst 1, 1) := by decide +kernel
theorem dX4_paidBy_8 : decode cX4_paidBy 8 = .ok (.isub, 1) := by decide +kernel
theorem dX4_paidBy_9 : decode cX4_paidBy 9 = .ok (.invokestatic 57, 3) := by decide +kernel
theorem dX4_paidBy_12 : decode cX4_paidBy 12 = .ok (.ifCond .eq 7, 3) := by decide +kernel
theorem dX4_paidBy_15 : decode cX4_paidBy 15 = .ok (.iconst 0, 1) := by decide +kernel
theorem dX4_paidBy_16 : decode cX4_paidBy 16 = .ok (.goto 4, 3) := by decide +kernel
theorem dX4_paidBy_19 : decode cX4_paidBy 19 = .ok (.iconst 1, 1) := by decide +kernel
theorem dX4_paidBy_20 : decode cX4_paidBy 20 = .ok (.putfield 53, 3) := by decide +kernel
theorem dX4_paidBy_23 : decode cX4_paidBy 23 = .ok (.iconst 0, 1) := by decide +kernel
theorem dX4_paidBy_24 : decode cX4_paidBy 24 = .ok (.istore_n 2, 1) := by decide +kernel
theorem dX4_paidBy_25 : decode cX4_paidBy 25 = .ok (.iconst 0, 1) := by decide +kernel
theorem dX4_paidBy_26 : decode cX4_paidBy 26 = .ok (.istore_n 3, 1) := by decide +kernel
theorem dX4_paidBy_27 : decode cX4_paidBy 27 = .ok (.iload_n 3, 1) := by decide +kernel
theorem dX4_paidBy_28 : decode cX4_paidBy 28 = .ok (.aload_n 0, 1) := by decide +kernel
theorem dX4_paidBy_29 : decode cX4_paidBy 29 = .ok (.getfield 67, 3) := by decide +kernel
theorem dX4_paidBy_32 : decode cX4_paidBy 32 = .ok (.if_icmp .ge 60, 3) := by decide +kernel
theorem dX4_paidBy_35 : decode cX4_paidBy 35 = .ok (.aload_n 0, 1) := by decide +kernel
theorem dX4_paidBy_36 : decode cX4_paidBy 36 = .ok (.getfield 53, 3) := by decide +kernel
theorem dX4_paidBy_39 : decode cX4_paidBy 39 = .ok (.ifCond .ne 53, 3) := by decide +kernel
theorem dX4_paidBy_42 : decode cX4_paidBy 42 = .ok (.iconst 0, 1) := by decide +kernel
theorem dX4_paidBy_43 : decode cX4_paidBy 43 = .ok (.istore 4, 2) := by decide +kernel
theorem dX4_paidBy_45 : decode cX4_paidBy 45 = .ok (.iload 4, 2) := by decide +kernel
theorem dX4_paidBy_47 : decode cX4_paidBy 47 = .ok (.aload_n 0, 1) := by decide +kernel
theorem dX4_paidBy_48 : decode cX4_paidBy 48 = .ok (.iload_n 3, 1) := by decide +kernel
theorem dX4_paidBy_49 : decode cX4_paidBy 49 = .ok (.invokevirtual 94, 3) := by decide +kernel
theorem dX4_paidBy_52 : decode cX4_paidBy 52 = .ok (.if_icmp .ge 34, 3) := by decide +kernel
theorem dX4_paidBy_55 : decode cX4_paidBy 55 = .ok (.iload_n 2, 1) := by decide +kernel
theorem dX4_paidBy_56 : decode cX4_paidBy 56 = .ok (.aload_n 0, 1) := by decide +kernel
theorem dX4_paidBy_57 : decode cX4_paidBy 57 = .ok (.iload_n 3, 1) := by decide +kernel
theorem dX4_paidBy_58 : decode cX4_paidBy 58 = .ok (.iload 4, 2) := by decide +kernel
theorem dX4_paidBy_60 : decode cX4_paidBy 60 = .ok (.invokevirtual 104, 3) := by decide +kernel
theorem dX4_paidBy_63 : decode cX4_paidBy 63 = .ok (.iload_n 1, 1) := by decide +kernel
theorem dX4_paidBy_64 : decode cX4_paidBy 64 = .ok (.if_icmp .ne 13, 3) := by decide +kernel
theorem dX4_paidBy_67 : decode cX4_paidBy 67 = .ok (.aload_n 0, 1) := by decide +kernel
theorem dX4_paidBy_68 : decode cX4_paidBy 68 = .ok (.iload_n 3, 1) := by decide +kernel
theorem dX4_paidBy_69 : decode cX4_paidBy 69 = .ok (.iload 4, 2) := by decide +kernel
theorem dX4_paidBy_71 : decode cX4_paidBy 71 = .ok (.invokevirtual 97, 3) := by decide +kernel
theorem dX4_paidBy_74 : decode cX4_paidBy 74 = .ok (.goto 4, 3) := by decide +kernel
theorem dX4_paidBy_77 : decode cX4_paidBy 77 = .ok (.iconst 0, 1) := by decide +kernel
theorem dX4_paidBy_78 : decode cX4_paidBy 78 = .ok (.iadd, 1) := by decide +kernel
theorem dX4_paidBy_79 : decode cX4_paidBy 79 = .ok (.istore_n 2, 1) := by decide +kernel
theorem dX4_paidBy_80 : decode cX4_paidBy 80 = .ok (.iinc 4 1, 3) := by decide +kernel
theorem dX4_paidBy_83 : decode cX4_paidBy 83 = .ok (.goto (-38), 3) := by decide +kernel
theorem dX4_paidBy_86 : decode cX4_paidBy 86 = .ok (.iinc 3 1, 3) := by decide +kernel
theorem dX4_paidBy_89 : decode cX4_paidBy 89 = .ok (.goto (-62), 3) := by decide +kernel
theorem dX4_paidBy_92 : decode cX4_paidBy 92 = .ok (.iload_n 2, 1) := by decide +kernel
theorem dX4_paidBy_93 : decode cX4_paidBy 93 = .ok (.ireturn, 1) := by decide +kernel
theorem dX4_hours_0 : decode cX4_hours 0 = .ok (.bipush 96, 2) := by decide +kernel
theorem dX4_hours_2 : decode cX4_hours 2 = .ok (.iload_n 2, 1) := by decide +kernel
theorem dX4_hours_3 : decode cX4_hours 3 = .ok (.imul, 1) := by decide +kernel
theorem dX4_hours_4 : decode cX4_hours 4 = .ok (.istore 4, 2) := by decide +kernel
theorem dX4_hours_6 : decode cX4_hours 6 = .ok (.bipush 96, 2) := by decide +kernel
theorem dX4_hours_8 : decode cX4_hours 8 = .ok (.iload_n 2, 1) := by decide +kernel
theorem dX4_hours_9 : decode cX4_hours 9 = .ok (.iload_n 3, 1) := by decide +kernel
theorem dX4_hours_10 : decode cX4_hours 10 = .ok (.iadd, 1) := by decide +kernel
theorem dX4_hours_11 : decode cX4_hours 11 = .ok (.imul, 1) := by decide +kernel
theorem dX4_hours_12 : decode cX4_hours 12 = .ok (.istore 5, 2) := by decide +kernel
theorem dX4_hours_14 : decode cX4_hours 14 = .ok (.iconst 0, 1) := by decide +kernel
theorem dX4_hours_15 : decode cX4_hours 15 = .ok (.istore 6, 2) := by decide +kernel
theorem dX4_hours_17 : decode cX4_hours 17 = .ok (.iconst 0, 1) := by decide +kernel
theorem dX4_hours_18 : decode cX4_hours 18 = .ok (.istore 7, 2) := by decide +kernel
theorem dX4_hours_20 : decode cX4_hours 20 = .ok (.iload 7, 2) := by decide +kernel
theorem dX4_hours_22 : decode cX4_hours 22 = .ok (.aload_n 0, 1) := by decide +kernel
theorem dX4_hours_23 : decode cX4_hours 23 = .ok (.getfield 67, 3) := by decide +kernel
theorem dX4_hours_26 : decode cX4_hours 26 = .ok (.if_icmp .ge 119, 3) := by decide +kernel
theorem dX4_hours_29 : decode cX4_hours 29 = .ok (.aload_n 0, 1) := by decide +kernel
theorem dX4_hours_30 : decode cX4_hours 30 = .ok (.getfield 41, 3) := by decide +kernel
theorem dX4_hours_33 : decode cX4_hours 33 = .ok (.iload 7, 2) := by decide +kernel
theorem dX4_hours_35 : decode cX4_hours 35 = .ok (.iaload, 1) := by decide +kernel
theorem dX4_hours_36 : decode cX4_hours 36 = .ok (.iload 4, 2) := by decide +kernel
theorem dX4_hours_38 : decode cX4_hours 38 = .ok (.if_icmp .le 13, 3) := by decide +kernel
theorem dX4_hours_41 : decode cX4_hours 41 = .ok (.aload_n 0, 1) := by decide +kernel
theorem dX4_hours_42 : decode cX4_hours 42 = .ok (.getfield 41, 3) := by decide +kernel
theorem dX4_hours_45 : decode cX4_hours 45 = .ok (.iload 7, 2) := by decide +kernel
theorem dX4_hours_47 : decode cX4_hours 47 = .ok (.iaload, 1) := by decide +kernel
theorem dX4_hours_48 : decode cX4_hours 48 = .ok (.goto 5, 3) := by decide +kernel
theorem dX4_hours_51 : decode cX4_hours 51 = .ok (.iload 4, 2) := by decide +kernel
theorem dX4_hours_53 : decode cX4_hours 53 = .ok (.istore 8, 2) := by decide +kernel
theorem dX4_hours_55 : decode cX4_hours 55 = .ok (.aload_n 0, 1) := by decide +kernel
theorem dX4_hours_56 : decode cX4_hours 56 = .ok (.getfield 41, 3) := by decide +kernel
theorem dX4_hours_59 : decode cX4_hours 59 = .ok (.iload 7, 2) := by decide +kernel
theorem dX4_hours_61 : decode cX4_hours 61 = .ok (.iaload, 1) := by decide +kernel
theorem dX4_hours_62 : decode cX4_hours 62 = .ok (.aload_n 0, 1) := by decide +kernel
theorem dX4_hours_63 : decode cX4_hours 63 = .ok (.getfield 44, 3) := by decide +kernel
theorem dX4_hours_66 : decode cX4_hours 66 = .ok (.iload 7, 2) := by decide +kernel
theorem dX4_hours_68 : decode cX4_hours 68 = .ok (.iaload, 1) := by decide +kernel
theorem dX4_hours_69 : decode cX4_hours 69 = .ok (.iadd, 1) := by decide +kernel
theorem dX4_hours_70 : decode cX4_hours 70 = .ok (.iload 5, 2) := by decide +kernel
theorem dX4_hours_72 : decode cX4_hours 72 = .ok (.if_icmp .ge 21, 3) := by decide +kernel
theorem dX4_hours_75 : decode cX4_hours 75 = .ok (.aload_n 0, 1) := by decide +kernel
theorem dX4_hours_76 : decode cX4_hours 76 = .ok (.getfield 41, 3) := by decide +kernel
theorem dX4_hours_79 : decode cX4_hours 79 = .ok (.iload 7, 2) := by decide +kernel
theorem dX4_hours_81 : decode cX4_hours 81 = .ok (.iaload, 1) := by decide +kernel
theorem dX4_hours_82 : decode cX4_hours 82 = .ok (.aload_n 0, 1) := by decide +kernel
theorem dX4_hours_83 : decode cX4_hours 83 = .ok (.getfield 44, 3) := by decide +kernel
theorem dX4_hours_86 : decode cX4_hours 86 = .ok (.iload 7, 2) := by decide +kernel
theorem dX4_hours_88 : decode cX4_hours 88 = .ok (.iaload, 1) := by decide +kernel
theorem dX4_hours_89 : decode cX4_hours 89 = .ok (.iadd, 1) := by decide +kernel
theorem dX4_hours_90 : decode cX4_hours 90 = .ok (.goto 5, 3) := by decide +kernel
theorem dX4_hours_93 : decode cX4_hours 93 = .ok (.iload 5, 2) := by decide +kernel
theorem dX4_hours_95 : decode cX4_hours 95 = .ok (.istore 9, 2) := by decide +kernel
theorem dX4_hours_97 : decode cX4_hours 97 = .ok (.iload 6, 2) := by decide +kernel
theorem dX4_hours_99 : decode cX4_hours 99 = .ok (.aload_n 0, 1) := by decide +kernel
theorem dX4_hours_100 : decode cX4_hours 100 = .ok (.getfield 50, 3) := by decide +kernel
theorem dX4_hours_103 : decode cX4_hours 103 = .ok (.iload 7, 2) := by decide +kernel
theorem dX4_hours_105 : decode cX4_hours 105 = .ok (.baload, 1) := by decide +kernel
theorem dX4_hours_106 : decode cX4_hours 106 = .ok (.ifCond .ne 29, 3) := by decide +kernel
theorem dX4_hours_109 : decode cX4_hours 109 = .ok (.aload_n 0, 1) := by decide +kernel
theorem dX4_hours_110 : decode cX4_hours 110 = .ok (.getfield 38, 3) := by decide +kernel
theorem dX4_hours_113 : decode cX4_hours 113 = .ok (.iload 7, 2) := by decide +kernel
theorem dX4_hours_115 : decode cX4_hours 115 = .ok (.iaload, 1) := by decide +kernel
theorem dX4_hours_116 : decode cX4_hours 116 = .ok (.iload_n 1, 1) := by decide +kernel
theorem dX4_hours_117 : decode cX4_hours 117 = .ok (.if_icmp .ne 18, 3) := by decide +kernel
theorem dX4_hours_120 : decode cX4_hours 120 = .ok (.iload 9, 2) := by decide +kernel
theorem dX4_hours_122 : decode cX4_hours 122 = .ok (.iload 8, 2) := by decide +kernel
theorem dX4_hours_124 : decode cX4_hours 124 = .ok (.if_icmp .le 11, 3) := by decide +kernel
theorem dX4_hours_127 : decode cX4_hours 127 = .ok (.iload 9, 2) := by decide +kernel
theorem dX4_hours_129 : decode cX4_hours 129 = .ok (.iload 8, 2) := by decide +kernel
theorem dX4_hours_131 : decode cX4_hours 131 = .ok (.isub, 1) := by decide +kernel
theorem dX4_hours_132 : decode cX4_hours 132 = .ok (.goto 4, 3) := by decide +kernel
theorem dX4_hours_135 : decode cX4_hours 135 = .ok (.iconst 0, 1) := by decide +kernel
theorem dX4_hours_136 : decode cX4_hours 136 = .ok (.iadd, 1) := by decide +kernel
theorem dX4_hours_137 : decode cX4_hours 137 = .ok (.istore 6, 2) := by decide +kernel
theorem dX4_hours_139 : decode cX4_hours 139 = .ok (.iinc 7 1, 3) := by decide +kernel
theorem dX4_hours_142 : decode cX4_hours 142 = .ok (.goto (-122), 3) := by decide +kernel
theorem dX4_hours_145 : decode cX4_hours 145 = .ok (.iload 6, 2) := by decide +kernel
theorem dX4_hours_147 : decode cX4_hours 147 = .ok (.ireturn, 1) := by decide +kernel
set_option maxRecDepth 20000 in
theorem ggX4_worked_X4_isWorker : GoodIn wsX4_worked wsX4_isWorker := goodIn_r _ [6, 7, 8, 9, 5, 10, 20, 21, 22, 23, 24, 25, 26, 27, 28, 29, 30, 31, 32, 33, 34, 35, 36, 37] (by decide +kernel) (by decide +kernel)
set_option maxRecDepth 20000 in
theorem gX4_worked_X4_isWorker : GoodIn wsX4_worked (wsV RX4 70 RX4 yX4_isWorker wsX4_isWorker) := goodIn_app (goodIn_of _ (by decide +kernel)) ggX4_worked_X4_isWorker
set_option maxRecDepth 20000 in
theorem ggX4_worked_X4_isIn : GoodIn wsX4_worked wsX4_isIn := goodIn_r _ [10] (by decide +kernel) (by decide +kernel)
set_option maxRecDepth 20000 in
theorem gX4_worked_X4_isIn : GoodIn wsX4_worked (va_wsS RX4 57 yX4_isIn wsX4_isIn) := goodIn_app (goodIn_of _ (by decide +kernel)) ggX4_worked_X4_isIn
set_option maxRecDepth 20000 in
theorem ggX4_worked_X4_hours : GoodIn wsX4_worked wsX4_hours := goodIn_r _ [14, 15, 16, 17, 18, 19, 20, 21, 22, 23, 24, 25, 26, 27, 28, 29, 30, 31, 32, 33, 34, 35, 36, 37] (by decide +kernel) (by decide +kernel)
set_option maxRecDepth 20000 in
theorem gX4_worked_X4_hours : GoodIn wsX4_worked (wsV RX4 107 RX4 yX4_hours wsX4_hours) := goodIn_app (goodIn_of _ (by decide +kernel)) ggX4_worked_X4_hours
theorem dX4_worked_0 : decode cX4_worked 0 = .ok (.aload_n 0, 1) := by decide +kernel
theorem dX4_worked_1 : decode cX4_worked 1 = .ok (.aload_n 0, 1) := by decide +kernel
theorem dX4_worked_2 : decode cX4_worked 2 = .ok (.iload_n 1, 1) := by decide +kernel
theorem dX4_worked_3 : decode cX4_worked 3 = .ok (.invokevirtual 70, 3) := by decide +kernel
theorem dX4_worked_6 : decode cX4_worked 6 = .ok (.ifCond .ne 7, 3) := by decide +kernel
theorem dX4_worked_9 : decode cX4_worked 9 = .ok (.iconst 1, 1) := by decide +kernel
theorem dX4_worked_10 : decode cX4_worked 10 = .ok (.goto 18, 3) := by decide +kernel
theorem dX4_worked_13 : decode cX4_worked 13 = .ok (.iload_n 2, 1) := by decide +kernel
theorem dX4_worked_14 : decode cX4_worked 14 = .ok (.iconst 0, 1) := by decide +kernel
theorem dX4_worked_15 : decode cX4_worked 15 = .ok (.bipush 51, 2) := by decide +kernel
theorem dX4_worked_17 : decode cX4_worked 17 = .ok (.invokestatic 57, 3) := by decide +kernel
theorem dX4_worked_20 : decode cX4_worked 20 = .ok (.ifCond .eq 7, 3) := by decide +kernel
theorem dX4_worked_23 : decode cX4_worked 23 = .ok (.iconst 0, 1) := by decide +kernel
theorem dX4_worked_24 : decode cX4_worked 24 = .ok (.goto 4, 3) := by decide +kernel
theorem dX4_worked_27 : decode cX4_worked 27 = .ok (.iconst 2, 1) := by decide +kernel
theorem dX4_worked_28 : decode cX4_worked 28 = .ok (.putfield 53, 3) := by decide +kernel
theorem dX4_worked_31 : decode cX4_worked 31 = .ok (.aload_n 0, 1) := by decide +kernel
theorem dX4_worked_32 : decode cX4_worked 32 = .ok (.getfield 53, 3) := by decide +kernel
theorem dX4_worked_35 : decode cX4_worked 35 = .ok (.ifCond .le 7, 3) := by decide +kernel
theorem dX4_worked_38 : decode cX4_worked 38 = .ok (.iconst 0, 1) := by decide +kernel
theorem dX4_worked_39 : decode cX4_worked 39 = .ok (.goto 14, 3) := by decide +kernel
theorem dX4_worked_42 : decode cX4_worked 42 = .ok (.aload_n 0, 1) := by decide +kernel
theorem dX4_worked_43 : decode cX4_worked 43 = .ok (.iload_n 1, 1) := by decide +kernel
theorem dX4_worked_44 : decode cX4_worked 44 = .ok (.bipush 7, 2) := by decide +kernel
theorem dX4_worked_46 : decode cX4_worked 46 = .ok (.iload_n 2, 1) := by decide +kernel
theorem dX4_worked_47 : decode cX4_worked 47 = .ok (.imul, 1) := by decide +kernel
theorem dX4_worked_48 : decode cX4_worked 48 = .ok (.bipush 7, 2) := by decide +kernel
theorem dX4_worked_50 : decode cX4_worked 50 = .ok (.invokevirtual 107, 3) := by decide +kernel
theorem dX4_worked_53 : decode cX4_worked 53 = .ok (.ireturn, 1) := by decide +kernel
set_option maxRecDepth 20000 in
theorem ggX4_excess_X4_isWorker : GoodIn wsX4_excess wsX4_isWorker := goodIn_r _ [6, 7, 8, 9, 5, 10, 20, 21, 22, 23, 24, 25, 26, 27, 28, 29, 30, 31, 32, 33, 34, 35, 36, 37] (by decide +kernel) (by decide +kernel)
set_option maxRecDepth 20000 in
theorem gX4_excess_X4_isWorker : GoodIn wsX4_excess (wsV RX4 70 RX4 yX4_isWorker wsX4_isWorker) := goodIn_app (goodIn_of _ (by decide +kernel)) ggX4_excess_X4_isWorker
set_option maxRecDepth 20000 in
theorem ggX4_excess_X4_isIn : GoodIn wsX4_excess wsX4_isIn := goodIn_r _ [10] (by decide +kernel) (by decide +kernel)
set_option maxRecDepth 20000 in
theorem gX4_excess_X4_isIn : GoodIn wsX4_excess (va_wsS RX4 57 yX4_isIn wsX4_isIn) := goodIn_app (goodIn_of _ (by decide +kernel)) ggX4_excess_X4_isIn
set_option maxRecDepth 20000 in
theorem ggX4_excess_X4_hours : GoodIn wsX4_excess wsX4_hours := goodIn_r _ [14, 15, 16, 17, 18, 19, 20, 21, 22, 23, 24, 25, 26, 27, 28, 29, 30, 31, 32, 33, 34, 35, 36, 37] (by decide +kernel) (by decide +kernel)
set_option maxRecDepth 20000 in
theorem gX4_excess_X4_hours : GoodIn wsX4_excess (wsV RX4 107 RX4 yX4_hours wsX4_hours) := goodIn_app (goodIn_of _ (by decide +kernel)) ggX4_excess_X4_hours
theorem dX4_excess_0 : decode cX4_excess 0 = .ok (.aload_n 0, 1) := by decide +kernel
theorem dX4_excess_1 : decode cX4_excess 1 = .ok (.aload_n 0, 1) := by decide +kernel
theorem dX4_excess_2 : decode cX4_excess 2 = .ok (.iload_n 1, 1) := by decide +kernel
theorem dX4_excess_3 : decode cX4_excess 3 = .ok (.invokevirtual 70, 3) := by decide +kernel
theorem dX4_excess_6 : decode cX4_excess 6 = .ok (.ifCond .ne 7, 3) := by decide +kernel
theorem dX4_excess_9 : decode cX4_excess 9 = .ok (.iconst 1, 1) := by decide +kernel
theorem dX4_excess_10 : decode cX4_excess 10 = .ok (.goto 18, 3) := by decide +kernel
theorem dX4_excess_13 : decode cX4_excess 13 = .ok (.iload_n 2, 1) := by decide +kernel
theorem dX4_excess_14 : decode cX4_excess 14 = .ok (.iconst 0, 1) := by decide +kernel
theorem dX4_excess_15 : decode cX4_excess 15 = .ok (.bipush 12, 2) := by decide +kernel
theorem dX4_excess_17 : decode cX4_excess 17 = .ok (.invokestatic 57, 3) := by decide +kernel
theorem dX4_excess_20 : decode cX4_excess 20 = .ok (.ifCond .eq 7, 3) := by decide +kernel
theorem dX4_excess_23 : decode cX4_excess 23 = .ok (.iconst 0, 1) := by decide +kernel
theorem dX4_excess_24 : decode cX4_excess 24 = .ok (.goto 4, 3) := by decide +kernel
theorem dX4_excess_27 : decode cX4_excess 27 = .ok (.iconst 2, 1) := by decide +kernel
theorem dX4_excess_28 : decode cX4_excess 28 = .ok (.putfield 53, 3) := by decide +kernel
theorem dX4_excess_31 : decode cX4_excess 31 = .ok (.aload_n 0, 1) := by decide +kernel
theorem dX4_excess_32 : decode cX4_excess 32 = .ok (.getfield 53, 3) := by decide +kernel
theorem dX4_excess_35 : decode cX4_excess 35 = .ok (.ifCond .le 7, 3) := by decide +kernel
theorem dX4_excess_38 : decode cX4_excess 38 = .ok (.iconst 0, 1) := by decide +kernel
theorem dX4_excess_39 : decode cX4_excess 39 = .ok (.goto 18, 3) := by decide +kernel
theorem dX4_excess_42 : decode cX4_excess 42 = .ok (.aload_n 0, 1) := by decide +kernel
theorem dX4_excess_43 : decode cX4_excess 43 = .ok (.iload_n 1, 1) := by decide +kernel
theorem dX4_excess_44 : decode cX4_excess 44 = .ok (.bipush 28, 2) := by decide +kernel
theorem dX4_excess_46 : decode cX4_excess 46 = .ok (.iload_n 2, 1) := by decide +kernel
theorem dX4_excess_47 : decode cX4_excess 47 = .ok (.imul, 1) := by decide +kernel
theorem dX4_excess_48 : decode cX4_excess 48 = .ok (.bipush 28, 2) := by decide +kernel
theorem dX4_excess_50 : decode cX4_excess 50 = .ok (.invokevirtual 107, 3) := by decide +kernel
theorem dX4_excess_53 : decode cX4_excess 53 = .ok (.sipush 608, 3) := by decide +kernel
theorem dX4_excess_56 : decode cX4_excess 56 = .ok (.isub, 1) := by decide +kernel
theorem dX4_excess_57 : decode cX4_excess 57 = .ok (.istore_n 3, 1) := by decide +kernel
theorem dX4_excess_58 : decode cX4_excess 58 = .ok (.iload_n 3, 1) := by decide +kernel
theorem dX4_excess_59 : decode cX4_excess 59 = .ok (.ifCond .le 7, 3) := by decide +kernel
theorem dX4_excess_62 : decode cX4_excess 62 = .ok (.iload_n 3, 1) := by decide +kernel
theorem dX4_excess_63 : decode cX4_excess 63 = .ok (.goto 4, 3) := by decide +kernel
theorem dX4_excess_66 : decode cX4_excess 66 = .ok (.iconst 0, 1) := by decide +kernel
theorem dX4_excess_67 : decode cX4_excess 67 = .ok (.ireturn, 1) := by decide +kernel
theorem dJ9_max_7cf53_0 : decode cJ9_max_7cf53 0 = .ok (.iload_n 0, 1) := by decide +kernel
theorem dJ9_max_7cf53_1 : decode cJ9_max_7cf53 1 = .ok (.iload_n 1, 1) := by decide +kernel
theorem dJ9_max_7cf53_2 : decode cJ9_max_7cf53 2 = .ok (.if_icmp .lt 7, 3) := by decide +kernel
theorem dJ9_max_7cf53_5 : decode cJ9_max_7cf53 5 = .ok (.iload_n 0, 1) := by decide +kernel
theorem dJ9_max_7cf53_6 : decode cJ9_max_7cf53 6 = .ok (.goto 4, 3) := by decide +kernel
theorem dJ9_max_7cf53_9 : decode cJ9_max_7cf53 9 = .ok (.iload_n 1, 1) := by decide +kernel
theorem dJ9_max_7cf53_10 : decode cJ9_max_7cf53 10 = .ok (.ireturn, 1) := by decide +kernel
theorem dJ9_min_7cf53_0 : decode cJ9_min_7cf53 0 = .ok (.iload_n 0, 1) := by decide +kernel
theorem dJ9_min_7cf53_1 : decode cJ9_min_7cf53 1 = .ok (.iload_n 1, 1) := by decide +kernel
theorem dJ9_min_7cf53_2 : decode cJ9_min_7cf53 2 = .ok (.if_icmp .gt 7, 3) := by decide +kernel
theorem dJ9_min_7cf53_5 : decode cJ9_min_7cf53 5 = .ok (.iload_n 0, 1) := by decide +kernel
theorem dJ9_min_7cf53_6 : decode cJ9_min_7cf53 6 = .ok (.goto 4, 3) := by decide +kernel
theorem dJ9_min_7cf53_9 : decode cJ9_min_7cf53 9 = .ok (.iload_n 1, 1) := by decide +kernel
theorem dJ9_min_7cf53_10 : decode cJ9_min_7cf53 10 = .ok (.ireturn, 1) := by decide +kernel
theorem dJxa1e45_init_da8c8_0 : decode cJxa1e45_init_da8c8 0 = .ok (.aload_n 0, 1) := by decide +kernel
theorem dJxa1e45_init_da8c8_1 : decode cJxa1e45_init_da8c8 1 = .ok (.invokespecial 1, 3) := by decide +kernel
theorem dJxa1e45_init_da8c8_4 : decode cJxa1e45_init_da8c8 4 = .ok (.return_, 1) := by decide +kernel
set_option maxRecDepth 20000 in
theorem ggJxc12de_init_da8c8_Jxa1e45_init_da8c8 : GoodIn wsJxc12de_init_da8c8 wsJxa1e45_init_da8c8 := goodIn_r _ [5, 6, 7, 8] (by decide +kernel) (by decide +kernel)
set_option maxRecDepth 20000 in
theorem gJxc12de_init_da8c8_Jxa1e45_init_da8c8 : GoodIn wsJxc12de_init_da8c8 (wsJxa1e45_init_da8c8) := ggJxc12de_init_da8c8_Jxa1e45_init_da8c8
theorem dJxc12de_init_da8c8_0 : decode cJxc12de_init_da8c8 0 = .ok (.aload_n 0, 1) := by decide +kernel
theorem dJxc12de_init_da8c8_1 : decode cJxc12de_init_da8c8 1 = .ok (.invokespecial 1, 3) := by decide +kernel
theorem dJxc12de_init_da8c8_4 : decode cJxc12de_init_da8c8 4 = .ok (.aload_n 0, 1) := by decide +kernel
theorem dJxc12de_init_da8c8_5 : decode cJxc12de_init_da8c8 5 = .ok (.iconst 0, 1) := by decide +kernel
theorem dJxc12de_init_da8c8_6 : decode cJxc12de_init_da8c8 6 = .ok (.putfield 7, 3) := by decide +kernel
theorem dJxc12de_init_da8c8_9 : decode cJxc12de_init_da8c8 9 = .ok (.return_, 1) := by decide +kernel
set_option maxRecDepth 20000 in
theorem ggJx4a65c_init_da8c8_Jxc12de_init_da8c8 : GoodIn wsJx4a65c_init_da8c8 wsJxc12de_init_da8c8 := goodIn_r _ [6, 7, 8, 9, 10, 11, 12, 13, 14, 15, 16, 17] (by decide +kernel) (by decide +kernel)
set_option maxRecDepth 20000 in
theorem gJx4a65c_init_da8c8_Jxc12de_init_da8c8 : GoodIn wsJx4a65c_init_da8c8 (wsJxc12de_init_da8c8) := ggJx4a65c_init_da8c8_Jxc12de_init_da8c8
theorem dJx4a65c_init_da8c8_0 : decode cJx4a65c_init_da8c8 0 = .ok (.aload_n 0, 1) := by decide +kernel
theorem dJx4a65c_init_da8c8_1 : decode cJx4a65c_init_da8c8 1 = .ok (.invokespecial 1, 3) := by decide +kernel
theorem dJx4a65c_init_da8c8_4 : decode cJx4a65c_init_da8c8 4 = .ok (.aload_n 0, 1) := by decide +kernel
theorem dJx4a65c_init_da8c8_5 : decode cJx4a65c_init_da8c8 5 = .ok (.getstatic 39, 3) := by decide +kernel
theorem dJx4a65c_init_da8c8_8 : decode cJx4a65c_init_da8c8 8 = .ok (.putfield 9, 3) := by decide +kernel
theorem dJx4a65c_init_da8c8_11 : decode cJx4a65c_init_da8c8 11 = .ok (.return_, 1) := by decide +kernel
set_option maxRecDepth 20000 in
theorem ggJx4a65c_grow_92f84_J8_newLength_cabcc : GoodIn wsJx4a65c_grow_92f84 wsJ8_newLength_cabcc := goodIn_r _ [11, 12, 4, 5, 6, 13, 14, 15, 10, 16] (by decide +kernel) (by decide +kernel)
set_option maxRecDepth 20000 in
theorem gJx4a65c_grow_92f84_J8_newLength_cabcc : GoodIn wsJx4a65c_grow_92f84 (va_wsS RJx4a65c 73 yJ8_newLength_cabcc wsJ8_newLength_cabcc) := goodIn_app (goodIn_of _ (by decide +kernel)) ggJx4a65c_grow_92f84_J8_newLength_cabcc
set_option maxRecDepth 20000 in
theorem ggJx4a65c_grow_92f84_J7_copyOf_1904c : GoodIn wsJx4a65c_grow_92f84 wsJ7_copyOf_1904c := goodIn_r _ [20, 21, 22, 23, 24, 25, 26, 19, 27, 28, 29, 30, 31, 5, 32, 33, 34, 35, 36] (by decide +kernel) (by decide +kernel)
set_option maxRecDepth 20000 in
theorem gJx4a65c_grow_92f84_J7_copyOf_1904c : GoodIn wsJx4a65c_grow_92f84 (va_wsS RJx4a65c 66 yJ7_copyOf_1904c wsJ7_copyOf_1904c) := goodIn_app (goodIn_of _ (by decide +kernel)) ggJx4a65c_grow_92f84_J7_copyOf_1904c
theorem dJx4a65c_grow_92f84_0 : decode cJx4a65c_grow_92f84 0 = .ok (.aload_n 0, 1) := by decide +kernel
theorem dJx4a65c_grow_92f84_1 : decode cJx4a65c_grow_92f84 1 = .ok (.getfield 9, 3) := by decide +kernel
theorem dJx4a65c_grow_92f84_4 : decode cJx4a65c_grow_92f84 4 = .ok (.arraylength, 1) := by decide +kernel
theorem dJx4a65c_grow_92f84_5 : decode cJx4a65c_grow_92f84 5 = .ok (.istore_n 2, 1) := by decide +kernel
theorem dJx4a65c_grow_92f84_6 : decode cJx4a65c_grow_92f84 6 = .ok (.iload_n 2, 1) := by decide +kernel
theorem dJx4a65c_grow_92f84_7 : decode cJx4a65c_grow_92f84 7 = .ok (.ifCond .gt 13, 3) := by decide +kernel
theorem dJx4a65c_grow_92f84_10 : decode cJx4a65c_grow_92f84 10 = .ok (.aload_n 0, 1) := by decide +kernel
theorem dJx4a65c_grow_92f84_11 : decode cJx4a65c_grow_92f84 11 = .ok (.getfield 9, 3) := by decide +kernel
theorem dJx4a65c_grow_92f84_14 : decode cJx4a65c_grow_92f84 14 = .ok (.getstatic 39, 3) := by decide +kernel
theorem dJx4a65c_grow_92f84_17 : decode cJx4a65c_grow_92f84 17 = .ok (.if_acmp .eq 28, 3) := by decide +kernel
theorem dJx4a65c_grow_92f84_20 : decode cJx4a65c_grow_92f84 20 = .ok (.iload_n 2, 1) := by decide +kernel
theorem dJx4a65c_grow_92f84_21 : decode cJx4a65c_grow_92f84 21 = .ok (.iload_n 1, 1) := by decide +kernel
theorem dJx4a65c_grow_92f84_22 : decode cJx4a65c_grow_92f84 22 = .ok (.iload_n 2, 1) := by decide +kernel
theorem dJx4a65c_grow_92f84_23 : decode cJx4a65c_grow_92f84 23 = .ok (.isub, 1) := by decide +kernel
theorem dJx4a65c_grow_92f84_24 : decode cJx4a65c_grow_92f84 24 = .ok (.iload_n 2, 1) := by decide +kernel
theorem dJx4a65c_grow_92f84_25 : decode cJx4a65c_grow_92f84 25 = .ok (.iconst 1, 1) := by decide +kernel
theorem dJx4a65c_grow_92f84_26 : decode cJx4a65c_grow_92f84 26 = .ok (.ishr, 1) := by decide +kernel
theorem dJx4a65c_grow_92f84_27 : decode cJx4a65c_grow_92f84 27 = .ok (.invokestatic 73, 3) := by decide +kernel
theorem dJx4a65c_grow_92f84_30 : decode cJx4a65c_grow_92f84 30 = .ok (.istore_n 3, 1) := by decide +kernel
theorem dJx4a65c_grow_92f84_31 : decode cJx4a65c_grow_92f84 31 = .ok (.aload_n 0, 1) := by decide +kernel
theorem dJx4a65c_grow_92f84_32 : decode cJx4a65c_grow_92f84 32 = .ok (.aload_n 0, 1) := by decide +kernel
theorem dJx4a65c_grow_92f84_33 : decode cJx4a65c_grow_92f84 33 = .ok (.getfield 9, 3) := by decide +kernel
theorem dJx4a65c_grow_92f84_36 : decode cJx4a65c_grow_92f84 36 = .ok (.iload_n 3, 1) := by decide +kernel
theorem dJx4a65c_grow_92f84_37 : decode cJx4a65c_grow_92f84 37 = .ok (.invokestatic 66, 3) := by decide +kernel
theorem dJx4a65c_grow_92f84_40 : decode cJx4a65c_grow_92f84 40 = .ok (.dup_x1, 1) := by decide +kernel
theorem dJx4a65c_grow_92f84_41 : decode cJx4a65c_grow_92f84 41 = .ok (.putfield 9, 3) := by decide +kernel
theorem dJx4a65c_grow_92f84_44 : decode cJx4a65c_grow_92f84 44 = .ok (.areturn, 1) := by decide +kernel
theorem dJx4a65c_grow_92f84_45 : decode cJx4a65c_grow_92f84 45 = .ok (.aload_n 0, 1) := by decide +kernel
theorem dJx4a65c_grow_92f84_46 : decode cJx4a65c_grow_92f84 46 = .ok (.bipush 10, 2) := by decide +kernel
theorem dJx4a65c_grow_92f84_48 : decode cJx4a65c_grow_92f84 48 = .ok (.iload_n 1, 1) := by decide +kernel
theorem dJx4a65c_grow_92f84_49 : decode cJx4a65c_grow_92f84 49 = .ok (.invokestatic 79, 3) := by decide +kernel
theorem dJx4a65c_grow_92f84_52 : decode cJx4a65c_grow_92f84 52 = .ok (.anewarray 7, 3) := by decide +kernel
theorem dJx4a65c_grow_92f84_55 : decode cJx4a65c_grow_92f84 55 = .ok (.dup_x1, 1) := by decide +kernel
theorem dJx4a65c_grow_92f84_56 : decode cJx4a65c_grow_92f84 56 = .ok (.putfield 9, 3) := by decide +kernel
theorem dJx4a65c_grow_92f84_59 : decode cJx4a65c_grow_92f84 59 = .ok (.areturn, 1) := by decide +kernel
set_option maxRecDepth 20000 in
theorem ggJx4a65c_grow_d5877_Jx4a65c_grow_92f84 : GoodIn wsJx4a65c_grow_d5877 wsJx4a65c_grow_92f84 := goodIn_r _ [6, 7, 8, 9, 10, 11, 12, 13, 14, 15, 16, 17, 18, 19, 20, 21, 22, 23, 24, 25, 26, 27, 28, 29, 30, 31, 32, 33, 34, 35, 36, 37, 38, 39, 40, 41, 42, 43, 44, 45] (by decide +kernel) (by decide +kernel)
set_option maxRecDepth 20000 in
theorem gJx4a65c_grow_d5877_Jx4a65c_grow_92f84 : GoodIn wsJx4a65c_grow_d5877 (wsV RJx4a65c 69 RJx4a65c yJx4a65c_grow_92f84 wsJx4a65c_grow_92f84) := goodIn_app (goodIn_of _ (by decide +kernel)) ggJx4a65c_grow_d5877_Jx4a65c_grow_92f84
theorem dJx4a65c_grow_d5877_0 : decode cJx4a65c_grow_d5877 0 = .ok (.aload_n 0, 1) := by decide +kernel
theorem dJx4a65c_grow_d5877_1 : decode cJx4a65c_grow_d5877 1 = .ok (.aload_n 0, 1) := by decide +kernel
theorem dJx4a65c_grow_d5877_2 : decode cJx4a65c_grow_d5877 2 = .ok (.getfield 48, 3) := by decide +kernel
theorem dJx4a65c_grow_d5877_5 : decode cJx4a65c_grow_d5877 5 = .ok (.iconst 1, 1) := by decide +kernel
theorem dJx4a65c_grow_d5877_6 : decode cJx4a65c_grow_d5877 6 = .ok (.iadd, 1) := by decide +kernel
theorem dJx4a65c_grow_d5877_7 : decode cJx4a65c_grow_d5877 7 = .ok (.invokevirtual 69, 3) := by decide +kernel
theorem dJx4a65c_grow_d5877_10 : decode cJx4a65c_grow_d5877 10 = .ok (.areturn, 1) := by decide +kernel
theorem dJx4a65c_size_8abf5_0 : decode cJx4a65c_size_8abf5 0 = .ok (.aload_n 0, 1) := by decide +kernel
theorem dJx4a65c_size_8abf5_1 : decode cJx4a65c_size_8abf5 1 = .ok (.getfield 48, 3) := by decide +kernel
theorem dJx4a65c_size_8abf5_4 : decode cJx4a65c_size_8abf5 4 = .ok (.ireturn, 1) := by decide +kernel
theorem dJx4a65c_elementData_915e3_0 : decode cJx4a65c_elementData_915e3 0 = .ok (.aload_n 0, 1) := by decide +kernel
theorem dJx4a65c_elementData_915e3_1 : decode cJx4a65c_elementData_915e3 1 = .ok (.getfield 9, 3) := by decide +kernel
theorem dJx4a65c_elementData_915e3_4 : decode cJx4a65c_elementData_915e3 4 = .ok (.iload_n 1, 1) := by decide +kernel
theorem dJx4a65c_elementData_915e3_5 : decode cJx4a65c_elementData_915e3 5 = .ok (.aaload, 1) := by decide +kernel
theorem dJx4a65c_elementData_915e3_6 : decode cJx4a65c_elementData_915e3 6 = .ok (.areturn, 1) := by decide +kernel
set_option maxRecDepth 20000 in
theorem ggJx4a65c_get_915e3_J15_checkIndex_7cf53 : GoodIn wsJx4a65c_get_915e3 wsJ15_checkIndex_7cf53 := goodIn_r _ [5, 6, 7, 8, 9] (by decide +kernel) (by decide +kernel)
set_option maxRecDepth 20000 in
theorem gJx4a65c_get_915e3_J15_checkIndex_7cf53 : GoodIn wsJx4a65c_get_915e3 (va_wsS RJx4a65c 118 yJ15_checkIndex_7cf53 wsJ15_checkIndex_7cf53) := goodIn_app (goodIn_of _ (by decide +kernel)) ggJx4a65c_get_915e3_J15_checkIndex_7cf53
set_option maxRecDepth 20000 in
theorem ggJx4a65c_get_915e3_Jx4a65c_elementData_915e3 : GoodIn wsJx4a65c_get_915e3 wsJx4a65c_elementData_915e3 := goodIn_r _ [14, 15, 16, 17, 18] (by decide +kernel) (by decide +kernel)
set_option maxRecDepth 20000 in
theorem gJx4a65c_get_915e3_Jx4a65c_elementData_915e3 : GoodIn wsJx4a65c_get_915e3 (wsV RJx4a65c 123 RJx4a65c yJx4a65c_elementData_915e3 wsJx4a65c_elementData_915e3) := goodIn_app (goodIn_of _ (by decide +kernel)) ggJx4a65c_get_915e3_Jx4a65c_elementData_915e3
theorem dJx4a65c_get_915e3_0 : decode cJx4a65c_get_915e3 0 = .ok (.iload_n 1, 1) := by decide +kernel
theorem dJx4a65c_get_915e3_1 : decode cJx4a65c_get_915e3 1 = .ok (.aload_n 0, 1) := by decide +kernel
theorem dJx4a65c_get_915e3_2 : decode cJx4a65c_get_915e3 2 = .ok (.getfield 48, 3) := by decide +kernel
theorem dJx4a65c_get_915e3_5 : decode cJx4a65c_get_915e3 5 = .ok (.invokestatic 118, 3) := by decide +kernel
theorem dJx4a65c_get_915e3_8 : decode cJx4a65c_get_915e3 8 = .ok (.pop, 1) := by decide +kernel
theorem dJx4a65c_get_915e3_9 : decode cJx4a65c_get_915e3 9 = .ok (.aload_n 0, 1) := by decide +kernel
theorem dJx4a65c_get_915e3_10 : decode cJx4a65c_get_915e3 10 = .ok (.iload_n 1, 1) := by decide +kernel
theorem dJx4a65c_get_915e3_11 : decode cJx4a65c_get_915e3 11 = .ok (.invokevirtual 123, 3) := by decide +kernel
theorem dJx4a65c_get_915e3_14 : decode cJx4a65c_get_915e3 14 = .ok (.areturn, 1) := by decide +kernel
set_option maxRecDepth 20000 in
theorem ggJx4a65c_add_72be8_Jx4a65c_grow_d5877 : GoodIn wsJx4a65c_add_72be8 wsJx4a65c_grow_d5877 := goodIn_r _ [6, 1, 7, 8, 9, 5, 10, 11, 12, 13, 14, 15, 16, 17, 18, 19, 20, 21, 22, 23, 24, 25, 26, 27, 28, 29, 30, 31, 32, 33, 34, 35, 36, 37, 38, 39, 40, 41, 42, 43, 44, 45, 46, 47, 48, 49] (by decide +kernel) (by decide +kernel)
set_option maxRecDepth 20000 in
theorem gJx4a65c_add_72be8_Jx4a65c_grow_d5877 : GoodIn wsJx4a65c_add_72be8 (wsV RJx4a65c 129 RJx4a65c yJx4a65c_grow_d5877 wsJx4a65c_grow_d5877) := goodIn_app (goodIn_of _ (by decide +kernel)) ggJx4a65c_add_72be8_Jx4a65c_grow_d5877
theorem dJx4a65c_add_72be8_0 : decode cJx4a65c_add_72be8 0 = .ok (.iload_n 3, 1) := by decide +kernel
theorem dJx4a65c_add_72be8_1 : decode cJx4a65c_add_72be8 1 = .ok (.aload_n 2, 1) := by decide +kernel
theorem dJx4a65c_add_72be8_2 : decode cJx4a65c_add_72be8 2 = .ok (.arraylength, 1) := by decide +kernel
theorem dJx4a65c_add_72be8_3 : decode cJx4a65c_add_72be8 3 = .ok (.if_icmp .ne 8, 3) := by decide +kernel
theorem dJx4a65c_add_72be8_6 : decode cJx4a65c_add_72be8 6 = .ok (.aload_n 0, 1) := by decide +kernel
theorem dJx4a65c_add_72be8_7 : decode cJx4a65c_add_72be8 7 = .ok (.invokevirtual 129, 3) := by decide +kernel
theorem dJx4a65c_add_72be8_10 : decode cJx4a65c_add_72be8 10 = .ok (.astore_n 2, 1) := by decide +kernel
theorem dJx4a65c_add_72be8_11 : decode cJx4a65c_add_72be8 11 = .ok (.aload_n 2, 1) := by decide +kernel
theorem dJx4a65c_add_72be8_12 : decode cJx4a65c_add_72be8 12 = .ok (.iload_n 3, 1) := by decide +kernel
theorem dJx4a65c_add_72be8_13 : decode cJx4a65c_add_72be8 13 = .ok (.aload_n 1, 1) := by decide +kernel
theorem dJx4a65c_add_72be8_14 : decode cJx4a65c_add_72be8 14 = .ok (.aastore, 1) := by decide +kernel
theorem dJx4a65c_add_72be8_15 : decode cJx4a65c_add_72be8 15 = .ok (.aload_n 0, 1) := by decide +kernel
theorem dJx4a65c_add_72be8_16 : decode cJx4a65c_add_72be8 16 = .ok (.iload_n 3, 1) := by decide +kernel
theorem dJx4a65c_add_72be8_17 : decode cJx4a65c_add_72be8 17 = .ok (.iconst 1, 1) := by decide +kernel
theorem dJx4a65c_add_72be8_18 : decode cJx4a65c_add_72be8 18 = .ok (.iadd, 1) := by decide +kernel
theorem dJx4a65c_add_72be8_19 : decode cJx4a65c_add_72be8 19 = .ok (.putfield 48, 3) := by decide +kernel
theorem dJx4a65c_add_72be8_22 : decode cJx4a65c_add_72be8 22 = .ok (.return_, 1) := by decide +kernel
set_option maxRecDepth 20000 in
theorem ggJx4a65c_add_9ea2d_Jx4a65c_add_72be8 : GoodIn wsJx4a65c_add_9ea2d wsJx4a65c_add_72be8 := goodIn_r _ [9, 4, 10, 11, 12, 8, 13, 14, 15, 16, 17, 3, 18, 19, 20, 21, 22, 23, 24, 25, 26, 27, 28, 29, 30, 31, 32, 33, 34, 35, 36, 37, 38, 39, 40, 41, 42, 43, 44, 45, 46, 47, 48, 49, 50, 51, 52, 53, 54, 55] (by decide +kernel) (by decide +kernel)
set_option maxRecDepth 20000 in
theorem gJx4a65c_add_9ea2d_Jx4a65c_add_72be8 : GoodIn wsJx4a65c_add_9ea2d (wsV RJx4a65c 131 RJx4a65c yJx4a65c_add_72be8 wsJx4a65c_add_72be8) := goodIn_app (goodIn_of _ (by decide +kernel)) ggJx4a65c_add_9ea2d_Jx4a65c_add_72be8
theorem dJx4a65c_add_9ea2d_0 : decode cJx4a65c_add_9ea2d 0 = .ok (.aload_n 0, 1) := by decide +kernel
theorem dJx4a65c_add_9ea2d_1 : decode cJx4a65c_add_9ea2d 1 = .ok (.dup, 1) := by decide +kernel
theorem dJx4a65c_add_9ea2d_2 : decode cJx4a65c_add_9ea2d 2 = .ok (.getfield 63, 3) := by decide +kernel
theorem dJx4a65c_add_9ea2d_5 : decode cJx4a65c_add_9ea2d 5 = .ok (.iconst 1, 1) := by decide +kernel
theorem dJx4a65c_add_9ea2d_6 : decode cJx4a65c_add_9ea2d 6 = .ok (.iadd, 1) := by decide +kernel
theorem dJx4a65c_add_9ea2d_7 : decode cJx4a65c_add_9ea2d 7 = .ok (.putfield 63, 3) := by decide +kernel
theorem dJx4a65c_add_9ea2d_10 : decode cJx4a65c_add_9ea2d 10 = .ok (.aload_n 0, 1) := by decide +kernel
theorem dJx4a65c_add_9ea2d_11 : decode cJx4a65c_add_9ea2d 11 = .ok (.aload_n 1, 1) := by decide +kernel
theorem dJx4a65c_add_9ea2d_12 : decode cJx4a65c_add_9ea2d 12 = .ok (.aload_n 0, 1) := by decide +kernel
theorem dJx4a65c_add_9ea2d_13 : decode cJx4a65c_add_9ea2d 13 = .ok (.getfield 9, 3) := by decide +kernel
theorem dJx4a65c_add_9ea2d_16 : decode cJx4a65c_add_9ea2d 16 = .ok (.aload_n 0, 1) := by decide +kernel
theorem dJx4a65c_add_9ea2d_17 : decode cJx4a65c_add_9ea2d 17 = .ok (.getfield 48, 3) := by decide +kernel
theorem dJx4a65c_add_9ea2d_20 : decode cJx4a65c_add_9ea2d 20 = .ok (.invokevirtual 131, 3) := by decide +kernel
theorem dJx4a65c_add_9ea2d_23 : decode cJx4a65c_add_9ea2d 23 = .ok (.iconst 1, 1) := by decide +kernel
theorem dJx4a65c_add_9ea2d_24 : decode cJx4a65c_add_9ea2d 24 = .ok (.ireturn, 1) := by decide +kernel
theorem dJ7_fill_53178_0 : decode cJ7_fill_53178 0 = .ok (.iconst 0, 1) := by decide +kernel
theorem dJ7_fill_53178_1 : decode cJ7_fill_53178 1 = .ok (.istore_n 2, 1) := by decide +kernel
theorem dJ7_fill_53178_2 : decode cJ7_fill_53178 2 = .ok (.aload_n 0, 1) := by decide +kernel
theorem dJ7_fill_53178_3 : decode cJ7_fill_53178 3 = .ok (.arraylength, 1) := by decide +kernel
theorem dJ7_fill_53178_4 : decode cJ7_fill_53178 4 = .ok (.istore_n 3, 1) := by decide +kernel
theorem dJ7_fill_53178_5 : decode cJ7_fill_53178 5 = .ok (.iload_n 2, 1) := by decide +kernel
theorem dJ7_fill_53178_6 : decode cJ7_fill_53178 6 = .ok (.iload_n 3, 1) := by decide +kernel
theorem dJ7_fill_53178_7 : decode cJ7_fill_53178 7 = .ok (.if_icmp .ge 13, 3) := by decide +kernel
theorem dJ7_fill_53178_10 : decode cJ7_fill_53178 10 = .ok (.aload_n 0, 1) := by decide +kernel
theorem dJ7_fill_53178_11 : decode cJ7_fill_53178 11 = .ok (.iload_n 2, 1) := by decide +kernel
theorem dJ7_fill_53178_12 : decode cJ7_fill_53178 12 = .ok (.iload_n 1, 1) := by decide +kernel
theorem dJ7_fill_53178_13 : decode cJ7_fill_53178 13 = .ok (.iastore, 1) := by decide +kernel
theorem dJ7_fill_53178_14 : decode cJ7_fill_53178 14 = .ok (.iinc 2 1, 3) := by decide +kernel
theorem dJ7_fill_53178_17 : decode cJ7_fill_53178 17 = .ok (.goto (-12), 3) := by decide +kernel
theorem dJ7_fill_53178_20 : decode cJ7_fill_53178 20 = .ok (.return_, 1) := by decide +kernel
set_option maxRecDepth 20000 in
theorem ggJ7_copyOf_1904c_J7_copyOf_6403c : GoodIn wsJ7_copyOf_1904c wsJ7_copyOf_6403c := goodIn_r _ [8, 9, 10, 11, 12, 13, 14, 15, 16, 17, 18] (by decide +kernel) (by decide +kernel)
set_option maxRecDepth 20000 in
theorem gJ7_copyOf_1904c_J7_copyOf_6403c : GoodIn wsJ7_copyOf_1904c (va_wsS RJ7 300 yJ7_copyOf_6403c wsJ7_copyOf_6403c) := goodIn_app (goodIn_of _ (by decide +kernel)) ggJ7_copyOf_1904c_J7_copyOf_6403c
theorem dJ7_copyOf_1904c_0 : decode cJ7_copyOf_1904c 0 = .ok (.aload_n 0, 1) := by decide +kernel
theorem dJ7_copyOf_1904c_1 : decode cJ7_copyOf_1904c 1 = .ok (.iload_n 1, 1) := by decide +kernel
theorem dJ7_copyOf_1904c_2 : decode cJ7_copyOf_1904c 2 = .ok (.aload_n 0, 1) := by decide +kernel
theorem dJ7_copyOf_1904c_3 : decode cJ7_copyOf_1904c 3 = .ok (.invokevirtual 86, 3) := by decide +kernel
theorem dJ7_copyOf_1904c_6 : decode cJ7_copyOf_1904c 6 = .ok (.invokestatic 300, 3) := by decide +kernel
theorem dJ7_copyOf_1904c_9 : decode cJ7_copyOf_1904c 9 = .ok (.areturn, 1) := by decide +kernel
theorem dJ7_copyOf_6403c_0 : decode cJ7_copyOf_6403c 0 = .ok (.aload_n 2, 1) := by decide +kernel
theorem dJ7_copyOf_6403c_1 : decode cJ7_copyOf_6403c 1 = .ok (.ldc 110, 2) := by decide +kernel
theorem dJ7_copyOf_6403c_3 : decode cJ7_copyOf_6403c 3 = .ok (.if_acmp .ne 10, 3) := by decide +kernel
theorem dJ7_copyOf_6403c_6 : decode cJ7_copyOf_6403c 6 = .ok (.iload_n 1, 1) := by decide +kernel
theorem dJ7_copyOf_6403c_7 : decode cJ7_copyOf_6403c 7 = .ok (.anewarray 2, 3) := by decide +kernel
theorem dJ7_copyOf_6403c_10 : decode cJ7_copyOf_6403c 10 = .ok (.goto 14, 3) := by decide +kernel
theorem dJ7_copyOf_6403c_13 : decode cJ7_copyOf_6403c 13 = .ok (.aload_n 2, 1) := by decide +kernel
theorem dJ7_copyOf_6403c_14 : decode cJ7_copyOf_6403c 14 = .ok (.invokevirtual 90, 3) := by decide +kernel
theorem dJ7_copyOf_6403c_17 : decode cJ7_copyOf_6403c 17 = .ok (.iload_n 1, 1) := by decide +kernel
theorem dJ7_copyOf_6403c_18 : decode cJ7_copyOf_6403c 18 = .ok (.invokestatic 95, 3) := by decide +kernel
theorem dJ7_copyOf_6403c_21 : decode cJ7_copyOf_6403c 21 = .ok (.checkcast 110, 3) := by decide +kernel
theorem dJ7_copyOf_6403c_24 : decode cJ7_copyOf_6403c 24 = .ok (.astore_n 3, 1) := by decide +kernel
theorem dJ7_copyOf_6403c_25 : decode cJ7_copyOf_6403c 25 = .ok (.aload_n 0, 1) := by decide +kernel
theorem dJ7_copyOf_6403c_26 : decode cJ7_copyOf_6403c 26 = .ok (.iconst 0, 1) := by decide +kernel
theorem dJ7_copyOf_6403c_27 : decode cJ7_copyOf_6403c 27 = .ok (.aload_n 3, 1) := by decide +kernel
theorem dJ7_copyOf_6403c_28 : decode cJ7_copyOf_6403c 28 = .ok (.iconst 0, 1) := by decide +kernel
theorem dJ7_copyOf_6403c_29 : decode cJ7_copyOf_6403c 29 = .ok (.aload_n 0, 1) := by decide +kernel
theorem dJ7_copyOf_6403c_30 : decode cJ7_copyOf_6403c 30 = .ok (.arraylength, 1) := by decide +kernel
theorem dJ7_copyOf_6403c_31 : decode cJ7_copyOf_6403c 31 = .ok (.iload_n 1, 1) := by decide +kernel
theorem dJ7_copyOf_6403c_32 : decode cJ7_copyOf_6403c 32 = .ok (.invokestatic 304, 3) := by decide +kernel
theorem dJ7_copyOf_6403c_35 : decode cJ7_copyOf_6403c 35 = .ok (.invokestatic 150, 3) := by decide +kernel
theorem dJ7_copyOf_6403c_38 : decode cJ7_copyOf_6403c 38 = .ok (.aload_n 3, 1) := by decide +kernel
theorem dJ7_copyOf_6403c_39 : decode cJ7_copyOf_6403c 39 = .ok (.areturn, 1) := by decide +kernel
set_option maxRecDepth 20000 in
theorem ggJ15_checkIndex_7cf53_J3_checkIndex_8e157 : GoodIn wsJ15_checkIndex_7cf53 wsJ3_checkIndex_8e157 := goodIn_r _ [4] (by decide +kernel) (by decide +kernel)
set_option maxRecDepth 20000 in
theorem gJ15_checkIndex_7cf53_J3_checkIndex_8e157 : GoodIn wsJ15_checkIndex_7cf53 (va_wsS RJ15 105 yJ3_checkIndex_8e157 wsJ3_checkIndex_8e157) := goodIn_app (goodIn_of _ (by decide +kernel)) ggJ15_checkIndex_7cf53_J3_checkIndex_8e157
theorem dJ15_checkIndex_7cf53_0 : decode cJ15_checkIndex_7cf53 0 = .ok (.iload_n 0, 1) := by decide +kernel
theorem dJ15_checkIndex_7cf53_1 : decode cJ15_checkIndex_7cf53 1 = .ok (.iload_n 1, 1) := by decide +kernel
theorem dJ15_checkIndex_7cf53_2 : decode cJ15_checkIndex_7cf53 2 = .ok (.aconst_null, 1) := by decide +kernel
theorem dJ15_checkIndex_7cf53_3 : decode cJ15_checkIndex_7cf53 3 = .ok (.invokestatic 105, 3) := by decide +kernel
theorem dJ15_checkIndex_7cf53_6 : decode cJ15_checkIndex_7cf53 6 = .ok (.ireturn, 1) := by decide +kernel
set_option maxRecDepth 20000 in
theorem ggJ8_newLength_cabcc_J8_hugeLength_7cf53 : GoodIn wsJ8_newLength_cabcc wsJ8_hugeLength_7cf53 := goodIn_r _ [9, 5] (by decide +kernel) (by decide +kernel)
set_option maxRecDepth 20000 in
theorem gJ8_newLength_cabcc_J8_hugeLength_7cf53 : GoodIn wsJ8_newLength_cabcc (va_wsS RJ8 201 yJ8_hugeLength_7cf53 wsJ8_hugeLength_7cf53) := goodIn_app (goodIn_of _ (by decide +kernel)) ggJ8_newLength_cabcc_J8_hugeLength_7cf53
theorem dJ8_newLength_cabcc_0 : decode cJ8_newLength_cabcc 0 = .ok (.iload_n 0, 1) := by decide +kernel
theorem dJ8_newLength_cabcc_1 : decode cJ8_newLength_cabcc 1 = .ok (.iload_n 1, 1) := by decide +kernel
theorem dJ8_newLength_cabcc_2 : decode cJ8_newLength_cabcc 2 = .ok (.iload_n 2, 1) := by decide +kernel
theorem dJ8_newLength_cabcc_3 : decode cJ8_newLength_cabcc 3 = .ok (.invokestatic 194, 3) := by decide +kernel
theorem dJ8_newLength_cabcc_6 : decode cJ8_newLength_cabcc 6 = .ok (.iadd, 1) := by decide +kernel
theorem dJ8_newLength_cabcc_7 : decode cJ8_newLength_cabcc 7 = .ok (.istore_n 3, 1) := by decide +kernel
theorem dJ8_newLength_cabcc_8 : decode cJ8_newLength_cabcc 8 = .ok (.iconst 0, 1) := by decide +kernel
theorem dJ8_newLength_cabcc_9 : decode cJ8_newLength_cabcc 9 = .ok (.iload_n 3, 1) := by decide +kernel
theorem dJ8_newLength_cabcc_10 : decode cJ8_newLength_cabcc 10 = .ok (.if_icmp .ge 11, 3) := by decide +kernel
theorem dJ8_newLength_cabcc_13 : decode cJ8_newLength_cabcc 13 = .ok (.iload_n 3, 1) := by decide +kernel
theorem dJ8_newLength_cabcc_14 : decode cJ8_newLength_cabcc 14 = .ok (.ldc 200, 2) := by decide +kernel
theorem dJ8_newLength_cabcc_16 : decode cJ8_newLength_cabcc 16 = .ok (.if_icmp .gt 5, 3) := by decide +kernel
theorem dJ8_newLength_cabcc_19 : decode cJ8_newLength_cabcc 19 = .ok (.iload_n 3, 1) := by decide +kernel
theorem dJ8_newLength_cabcc_20 : decode cJ8_newLength_cabcc 20 = .ok (.ireturn, 1) := by decide +kernel
theorem dJ8_newLength_cabcc_21 : decode cJ8_newLength_cabcc 21 = .ok (.iload_n 0, 1) := by decide +kernel
theorem dJ8_newLength_cabcc_22 : decode cJ8_newLength_cabcc 22 = .ok (.iload_n 1, 1) := by decide +kernel
theorem dJ8_newLength_cabcc_23 : decode cJ8_newLength_cabcc 23 = .ok (.invokestatic 201, 3) := by decide +kernel
theorem dJ8_newLength_cabcc_26 : decode cJ8_newLength_cabcc 26 = .ok (.ireturn, 1) := by decide +kernel
theorem dJ8_hugeLength_7cf53_0 : decode cJ8_hugeLength_7cf53 0 = .ok (.iload_n 0, 1) := by decide +kernel
theorem dJ8_hugeLength_7cf53_1 : decode cJ8_hugeLength_7cf53 1 = .ok (.iload_n 1, 1) := by decide +kernel
theorem dJ8_hugeLength_7cf53_2 : decode cJ8_hugeLength_7cf53 2 = .ok (.iadd, 1) := by decide +kernel
theorem dJ8_hugeLength_7cf53_3 : decode cJ8_hugeLength_7cf53 3 = .ok (.istore_n 2, 1) := by decide +kernel
theorem dJ8_hugeLength_7cf53_4 : decode cJ8_hugeLength_7cf53 4 = .ok (.iload_n 2, 1) := by decide +kernel
theorem dJ8_hugeLength_7cf53_5 : decode cJ8_hugeLength_7cf53 5 = .ok (.ifCond .ge 44, 3) := by decide +kernel
theorem dJ8_hugeLength_7cf53_8 : decode cJ8_hugeLength_7cf53 8 = .ok (.new 204, 3) := by decide +kernel
theorem dJ8_hugeLength_7cf53_11 : decode cJ8_hugeLength_7cf53 11 = .ok (.dup, 1) := by decide +kernel
theorem dJ8_hugeLength_7cf53_12 : decode cJ8_hugeLength_7cf53 12 = .ok (.new 89, 3) := by decide +kernel
theorem dJ8_hugeLength_7cf53_15 : decode cJ8_hugeLength_7cf53 15 = .ok (.dup, 1) := by decide +kernel
theorem dJ8_hugeLength_7cf53_16 : decode cJ8_hugeLength_7cf53 16 = .ok (.invokespecial 91, 3) := by decide +kernel
theorem dJ8_hugeLength_7cf53_19 : decode cJ8_hugeLength_7cf53 19 = .ok (.ldc 206, 2) := by decide +kernel
theorem dJ8_hugeLength_7cf53_21 : decode cJ8_hugeLength_7cf53 21 = .ok (.invokevirtual 94, 3) := by decide +kernel
theorem dJ8_hugeLength_7cf53_24 : decode cJ8_hugeLength_7cf53 24 = .ok (.iload_n 0, 1) := by decide +kernel
theorem dJ8_hugeLength_7cf53_25 : decode cJ8_hugeLength_7cf53 25 = .ok (.invokevirtual 98, 3) := by decide +kernel
theorem dJ8_hugeLength_7cf53_28 : decode cJ8_hugeLength_7cf53 28 = .ok (.ldc 208, 2) := by decide +kernel
theorem dJ8_hugeLength_7cf53_30 : decode cJ8_hugeLength_7cf53 30 = .ok (.invokevirtual 94, 3) := by decide +kernel
theorem dJ8_hugeLength_7cf53_33 : decode cJ8_hugeLength_7cf53 33 = .ok (.iload_n 1, 1) := by decide +kernel
theorem dJ8_hugeLength_7cf53_34 : decode cJ8_hugeLength_7cf53 34 = .ok (.invokevirtual 98, 3) := by decide +kernel
theorem dJ8_hugeLength_7cf53_37 : decode cJ8_hugeLength_7cf53 37 = .ok (.ldc 210, 2) := by decide +kernel
theorem dJ8_hugeLength_7cf53_39 : decode cJ8_hugeLength_7cf53 39 = .ok (.invokevirtual 94, 3) := by decide +kernel
theorem dJ8_hugeLength_7cf53_42 : decode cJ8_hugeLength_7cf53 42 = .ok (.invokevirtual 101, 3) := by decide +kernel
theorem dJ8_hugeLength_7cf53_45 : decode cJ8_hugeLength_7cf53 45 = .ok (.invokespecial 212, 3) := by decide +kernel
theorem dJ8_hugeLength_7cf53_48 : decode cJ8_hugeLength_7cf53 48 = .ok (.athrow, 1) := by decide +kernel
theorem dJ8_hugeLength_7cf53_49 : decode cJ8_hugeLength_7cf53 49 = .ok (.iload_n 2, 1) := by decide +kernel
theorem dJ8_hugeLength_7cf53_50 : decode cJ8_hugeLength_7cf53 50 = .ok (.ldc 200, 2) := by decide +kernel
theorem dJ8_hugeLength_7cf53_52 : decode cJ8_hugeLength_7cf53 52 = .ok (.if_icmp .gt 6, 3) := by decide +kernel
theorem dJ8_hugeLength_7cf53_55 : decode cJ8_hugeLength_7cf53 55 = .ok (.ldc 200, 2) := by decide +kernel
theorem dJ8_hugeLength_7cf53_57 : decode cJ8_hugeLength_7cf53 57 = .ok (.ireturn, 1) := by decide +kernel
theorem dJ8_hugeLength_7cf53_58 : decode cJ8_hugeLength_7cf53 58 = .ok (.iload_n 2, 1) := by decide +kernel
theorem dJ8_hugeLength_7cf53_59 : decode cJ8_hugeLength_7cf53 59 = .ok (.ireturn, 1) := by decide +kernel
theorem dJ3_checkIndex_8e157_0 : decode cJ3_checkIndex_8e157 0 = .ok (.iload_n 0, 1) := by decide +kernel
theorem dJ3_checkIndex_8e157_1 : decode cJ3_checkIndex_8e157 1 = .ok (.ifCond .lt 8, 3) := by decide +kernel
theorem dJ3_checkIndex_8e157_4 : decode cJ3_checkIndex_8e157 4 = .ok (.iload_n 0, 1) := by decide +kernel
theorem dJ3_checkIndex_8e157_5 : decode cJ3_checkIndex_8e157 5 = .ok (.iload_n 1, 1) := by decide +kernel
theorem dJ3_checkIndex_8e157_6 : decode cJ3_checkIndex_8e157 6 = .ok (.if_icmp .lt 10, 3) := by decide +kernel
theorem dJ3_checkIndex_8e157_9 : decode cJ3_checkIndex_8e157 9 = .ok (.aload_n 2, 1) := by decide +kernel
theorem dJ3_checkIndex_8e157_10 : decode cJ3_checkIndex_8e157 10 = .ok (.iload_n 0, 1) := by decide +kernel
theorem dJ3_checkIndex_8e157_11 : decode cJ3_checkIndex_8e157 11 = .ok (.iload_n 1, 1) := by decide +kernel
theorem dJ3_checkIndex_8e157_12 : decode cJ3_checkIndex_8e157 12 = .ok (.invokestatic 95, 3) := by decide +kernel
theorem dJ3_checkIndex_8e157_15 : decode cJ3_checkIndex_8e157 15 = .ok (.athrow, 1) := by decide +kernel
theorem dJ3_checkIndex_8e157_16 : decode cJ3_checkIndex_8e157 16 = .ok (.iload_n 0, 1) := by decide +kernel
theorem dJ3_checkIndex_8e157_17 : decode cJ3_checkIndex_8e157 17 = .ok (.ireturn, 1) := by decide +kernel
set_option maxRecDepth 20000 in
theorem ggL_setBase_X3_setBase : GoodIn wsL_setBase wsX3_setBase := goodIn_ca (goodIn_r _ [6, 7, 8, 9, 10, 11, 5, 12, 13, 14, 15, 16, 17] (by decide +kernel) (by decide +kernel)) (goodIn_sub (fun _ h => List.mem_cons_of_mem _ (List.mem_append_right _ h)) (by decide +kernel))
set_option maxRecDepth 20000 in
theorem gL_setBase_X3_setBase : GoodIn wsL_setBase (wsV RL 7 RX3 yX3_setBase wsX3_setBase) := goodIn_app (goodIn_of _ (by decide +kernel)) ggL_setBase_X3_setBase
