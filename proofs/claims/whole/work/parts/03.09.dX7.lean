theorem dX7_init_0 : decode cX7_init 0 = .ok (.aload_n 0, 1) := by decide +kernel
theorem dX7_init_1 : decode cX7_init 1 = .ok (.invokespecial 1, 3) := by decide +kernel
theorem dX7_init_4 : decode cX7_init 4 = .ok (.aload_n 0, 1) := by decide +kernel
theorem dX7_init_5 : decode cX7_init 5 = .ok (.sipush 240, 3) := by decide +kernel
theorem dX7_init_8 : decode cX7_init 8 = .ok (.newarray .int, 2) := by decide +kernel
theorem dX7_init_10 : decode cX7_init 10 = .ok (.putfield 7, 3) := by decide +kernel
theorem dX7_init_13 : decode cX7_init 13 = .ok (.aload_n 0, 1) := by decide +kernel
theorem dX7_init_14 : decode cX7_init 14 = .ok (.bipush 90, 2) := by decide +kernel
theorem dX7_init_16 : decode cX7_init 16 = .ok (.newarray .int, 2) := by decide +kernel
theorem dX7_init_18 : decode cX7_init 18 = .ok (.putfield 13, 3) := by decide +kernel
theorem dX7_init_21 : decode cX7_init 21 = .ok (.aload_n 0, 1) := by decide +kernel
theorem dX7_init_22 : decode cX7_init 22 = .ok (.bipush 30, 2) := by decide +kernel
theorem dX7_init_24 : decode cX7_init 24 = .ok (.newarray .int, 2) := by decide +kernel
theorem dX7_init_26 : decode cX7_init 26 = .ok (.putfield 16, 3) := by decide +kernel
theorem dX7_init_29 : decode cX7_init 29 = .ok (.aload_n 0, 1) := by decide +kernel
theorem dX7_init_30 : decode cX7_init 30 = .ok (.sipush 180, 3) := by decide +kernel
theorem dX7_init_33 : decode cX7_init 33 = .ok (.newarray .int, 2) := by decide +kernel
theorem dX7_init_35 : decode cX7_init 35 = .ok (.putfield 19, 3) := by decide +kernel
theorem dX7_init_38 : decode cX7_init 38 = .ok (.aload_n 0, 1) := by decide +kernel
theorem dX7_init_39 : decode cX7_init 39 = .ok (.ldc 22, 2) := by decide +kernel
theorem dX7_init_41 : decode cX7_init 41 = .ok (.newarray .int, 2) := by decide +kernel
theorem dX7_init_43 : decode cX7_init 43 = .ok (.putfield 23, 3) := by decide +kernel
theorem dX7_init_46 : decode cX7_init 46 = .ok (.aload_n 0, 1) := by decide +kernel
theorem dX7_init_47 : decode cX7_init 47 = .ok (.bipush 120, 2) := by decide +kernel
theorem dX7_init_49 : decode cX7_init 49 = .ok (.newarray .int, 2) := by decide +kernel
theorem dX7_init_51 : decode cX7_init 51 = .ok (.putfield 26, 3) := by decide +kernel
theorem dX7_init_54 : decode cX7_init 54 = .ok (.aload_n 0, 1) := by decide +kernel
theorem dX7_init_55 : decode cX7_init 55 = .ok (.bipush 6, 2) := by decide +kernel
theorem dX7_init_57 : decode cX7_init 57 = .ok (.newarray .int, 2) := by decide +kernel
theorem dX7_init_59 : decode cX7_init 59 = .ok (.putfield 29, 3) := by decide +kernel
theorem dX7_init_62 : decode cX7_init 62 = .ok (.aload_n 0, 1) := by decide +kernel
theorem dX7_init_63 : decode cX7_init 63 = .ok (.sipush 480, 3) := by decide +kernel
theorem dX7_init_66 : decode cX7_init 66 = .ok (.newarray .int, 2) := by decide +kernel
theorem dX7_init_68 : decode cX7_init 68 = .ok (.putfield 32, 3) := by decide +kernel
theorem dX7_init_71 : decode cX7_init 71 = .ok (.aload_n 0, 1) := by decide +kernel
theorem dX7_init_72 : decode cX7_init 72 = .ok (.bipush 80, 2) := by decide +kernel
theorem dX7_init_74 : decode cX7_init 74 = .ok (.newarray .int, 2) := by decide +kernel
theorem dX7_init_76 : decode cX7_init 76 = .ok (.putfield 35, 3) := by decide +kernel
theorem dX7_init_79 : decode cX7_init 79 = .ok (.aload_n 0, 1) := by decide +kernel
theorem dX7_init_80 : decode cX7_init 80 = .ok (.bipush 80, 2) := by decide +kernel
theorem dX7_init_82 : decode cX7_init 82 = .ok (.newarray .int, 2) := by decide +kernel
theorem dX7_init_84 : decode cX7_init 84 = .ok (.putfield 38, 3) := by decide +kernel
theorem dX7_init_87 : decode cX7_init 87 = .ok (.aload_n 0, 1) := by decide +kernel
theorem dX7_init_88 : decode cX7_init 88 = .ok (.iconst 1, 1) := by decide +kernel
theorem dX7_init_89 : decode cX7_init 89 = .ok (.putfield 41, 3) := by decide +kernel
theorem dX7_init_92 : decode cX7_init 92 = .ok (.return_, 1) := by decide +kernel
theorem dX7_within_0 : decode cX7_within 0 = .ok (.iload_n 0, 1) := by decide +kernel
theorem dX7_within_1 : decode cX7_within 1 = .ok (.iload_n 1, 1) := by decide +kernel
theorem dX7_within_2 : decode cX7_within 2 = .ok (.if_icmp .lt 12, 3) := by decide +kernel
theorem dX7_within_5 : decode cX7_within 5 = .ok (.iload_n 0, 1) := by decide +kernel
theorem dX7_within_6 : decode cX7_within 6 = .ok (.iload_n 2, 1) := by decide +kernel
theorem dX7_within_7 : decode cX7_within 7 = .ok (.if_icmp .gt 7, 3) := by decide +kernel
theorem dX7_within_10 : decode cX7_within 10 = .ok (.iconst 1, 1) := by decide +kernel
theorem dX7_within_11 : decode cX7_within 11 = .ok (.goto 4, 3) := by decide +kernel
theorem dX7_within_14 : decode cX7_within 14 = .ok (.iconst 0, 1) := by decide +kernel
theorem dX7_within_15 : decode cX7_within 15 = .ok (.ireturn, 1) := by decide +kernel
theorem dX7_triple_0 : decode cX7_triple 0 = .ok (.iload_n 1, 1) := by decide +kernel
theorem dX7_triple_1 : decode cX7_triple 1 = .ok (.iconst 0, 1) := by decide +kernel
theorem dX7_triple_2 : decode cX7_triple 2 = .ok (.iconst 3, 1) := by decide +kernel
theorem dX7_triple_3 : decode cX7_triple 3 = .ok (.invokestatic 45, 3) := by decide +kernel
theorem dX7_triple_6 : decode cX7_triple 6 = .ok (.ifCond .eq 46, 3) := by decide +kernel
theorem dX7_triple_9 : decode cX7_triple 9 = .ok (.iload_n 2, 1) := by decide +kernel
theorem dX7_triple_10 : decode cX7_triple 10 = .ok (.iconst 0, 1) := by decide +kernel
theorem dX7_triple_11 : decode cX7_triple 11 = .ok (.sipush 999, 3) := by decide +kernel
theorem dX7_triple_14 : decode cX7_triple 14 = .ok (.invokestatic 45, 3) := by decide +kernel
theorem dX7_triple_17 : decode cX7_triple 17 = .ok (.ifCond .eq 35, 3) := by decide +kernel
theorem dX7_triple_20 : decode cX7_triple 20 = .ok (.iload_n 3, 1) := by decide +kernel
theorem dX7_triple_21 : decode cX7_triple 21 = .ok (.iconst 0, 1) := by decide +kernel
theorem dX7_triple_22 : decode cX7_triple 22 = .ok (.sipush 999, 3) := by decide +kernel
theorem dX7_triple_25 : decode cX7_triple 25 = .ok (.invokestatic 45, 3) := by decide +kernel
theorem dX7_triple_28 : decode cX7_triple 28 = .ok (.ifCond .eq 24, 3) := by decide +kernel
theorem dX7_triple_31 : decode cX7_triple 31 = .ok (.iload 4, 2) := by decide +kernel
theorem dX7_triple_33 : decode cX7_triple 33 = .ok (.iconst 0, 1) := by decide +kernel
theorem dX7_triple_34 : decode cX7_triple 34 = .ok (.sipush 999, 3) := by decide +kernel
theorem dX7_triple_37 : decode cX7_triple 37 = .ok (.invokestatic 45, 3) := by decide +kernel
theorem dX7_triple_40 : decode cX7_triple 40 = .ok (.ifCond .eq 12, 3) := by decide +kernel
theorem dX7_triple_43 : decode cX7_triple 43 = .ok (.aload_n 0, 1) := by decide +kernel
theorem dX7_triple_44 : decode cX7_triple 44 = .ok (.getfield 49, 3) := by decide +kernel
theorem dX7_triple_47 : decode cX7_triple 47 = .ok (.bipush 60, 2) := by decide +kernel
theorem dX7_triple_49 : decode cX7_triple 49 = .ok (.if_icmp .ne 5, 3) := by decide +kernel
theorem dX7_triple_52 : decode cX7_triple 52 = .ok (.iconst (-1), 1) := by decide +kernel
theorem dX7_triple_53 : decode cX7_triple 53 = .ok (.ireturn, 1) := by decide +kernel
theorem dX7_triple_54 : decode cX7_triple 54 = .ok (.iconst 0, 1) := by decide +kernel
theorem dX7_triple_55 : decode cX7_triple 55 = .ok (.istore 5, 2) := by decide +kernel
theorem dX7_triple_57 : decode cX7_triple 57 = .ok (.iload 5, 2) := by decide +kernel
theorem dX7_triple_59 : decode cX7_triple 59 = .ok (.iconst 4, 1) := by decide +kernel
theorem dX7_triple_60 : decode cX7_triple 60 = .ok (.aload_n 0, 1) := by decide +kernel
theorem dX7_triple_61 : decode cX7_triple 61 = .ok (.getfield 49, 3) := by decide +kernel
theorem dX7_triple_64 : decode cX7_triple 64 = .ok (.imul, 1) := by decide +kernel
theorem dX7_triple_65 : decode cX7_triple 65 = .ok (.if_icmp .ge 62, 3) := by decide +kernel
theorem dX7_triple_68 : decode cX7_triple 68 = .ok (.aload_n 0, 1) := by decide +kernel
theorem dX7_triple_69 : decode cX7_triple 69 = .ok (.getfield 7, 3) := by decide +kernel
theorem dX7_triple_72 : decode cX7_triple 72 = .ok (.iload 5, 2) := by decide +kernel
theorem dX7_triple_74 : decode cX7_triple 74 = .ok (.iaload, 1) := by decide +kernel
theorem dX7_triple_75 : decode cX7_triple 75 = .ok (.iload_n 1, 1) := by decide +kernel
theorem dX7_triple_76 : decode cX7_triple 76 = .ok (.if_icmp .ne 45, 3) := by decide +kernel
theorem dX7_triple_79 : decode cX7_triple 79 = .ok (.aload_n 0, 1) := by decide +kernel
theorem dX7_triple_80 : decode cX7_triple 80 = .ok (.getfield 7, 3) := by decide +kernel
theorem dX7_triple_83 : decode cX7_triple 83 = .ok (.iload 5, 2) := by decide +kernel
theorem dX7_triple_85 : decode cX7_triple 85 = .ok (.iconst 1, 1) := by decide +kernel
theorem dX7_triple_86 : decode cX7_triple 86 = .ok (.iadd, 1) := by decide +kernel
theorem dX7_triple_87 : decode cX7_triple 87 = .ok (.iaload, 1) := by decide +kernel
theorem dX7_triple_88 : decode cX7_triple 88 = .ok (.iload_n 2, 1) := by decide +kernel
theorem dX7_triple_89 : decode cX7_triple 89 = .ok (.if_icmp .ne 32, 3) := by decide +kernel
theorem dX7_triple_92 : decode cX7_triple 92 = .ok (.aload_n 0, 1) := by decide +kernel
theorem dX7_triple_93 : decode cX7_triple 93 = .ok (.getfield 7, 3) := by decide +kernel
theorem dX7_triple_96 : decode cX7_triple 96 = .ok (.iload 5, 2) := by decide +kernel
theorem dX7_triple_98 : decode cX7_triple 98 = .ok (.iconst 2, 1) := by decide +kernel
theorem dX7_triple_99 : decode cX7_triple 99 = .ok (.iadd, 1) := by decide +kernel
theorem dX7_triple_100 : decode cX7_triple 100 = .ok (.iaload, 1) := by decide +kernel
theorem dX7_triple_101 : decode cX7_triple 101 = .ok (.iload_n 3, 1) := by decide +kernel
theorem dX7_triple_102 : decode cX7_triple 102 = .ok (.if_icmp .ne 19, 3) := by decide +kernel
theorem dX7_triple_105 : decode cX7_triple 105 = .ok (.aload_n 0, 1) := by decide +kernel
theorem dX7_triple_106 : decode cX7_triple 106 = .ok (.getfield 7, 3) := by decide +kernel
theorem dX7_triple_109 : decode cX7_triple 109 = .ok (.iload 5, 2) := by decide +kernel
theorem dX7_triple_111 : decode cX7_triple 111 = .ok (.iconst 3, 1) := by decide +kernel
theorem dX7_triple_112 : decode cX7_triple 112 = .ok (.iadd, 1) := by decide +kernel
theorem dX7_triple_113 : decode cX7_triple 113 = .ok (.iaload, 1) := by decide +kernel
theorem dX7_triple_114 : decode cX7_triple 114 = .ok (.iload 4, 2) := by decide +kernel
theorem dX7_triple_116 : decode cX7_triple 116 = .ok (.if_icmp .ne 5, 3) := by decide +kernel
theorem dX7_triple_119 : decode cX7_triple 119 = .ok (.iconst (-1), 1) := by decide +kernel
theorem dX7_triple_120 : decode cX7_triple 120 = .ok (.ireturn, 1) := by decide +kernel
theorem dX7_triple_121 : decode cX7_triple 121 = .ok (.iinc 5 4, 3) := by decide +kernel
theorem dX7_triple_124 : decode cX7_triple 124 = .ok (.goto (-67), 3) := by decide +kernel
theorem dX7_triple_127 : decode cX7_triple 127 = .ok (.iconst 4, 1) := by decide +kernel
theorem dX7_triple_128 : decode cX7_triple 128 = .ok (.aload_n 0, 1) := by decide +kernel
theorem dX7_triple_129 : decode cX7_triple 129 = .ok (.getfield 49, 3) := by decide +kernel
theorem dX7_triple_132 : decode cX7_triple 132 = .ok (.imul, 1) := by decide +kernel
theorem dX7_triple_133 : decode cX7_triple 133 = .ok (.istore 5, 2) := by decide +kernel
theorem dX7_triple_135 : decode cX7_triple 135 = .ok (.aload_n 0, 1) := by decide +kernel
theorem dX7_triple_136 : decode cX7_triple 136 = .ok (.getfield 7, 3) := by decide +kernel
theorem dX7_triple_139 : decode cX7_triple 139 = .ok (.iload 5, 2) := by decide +kernel
theorem dX7_triple_141 : decode cX7_triple 141 = .ok (.iload_n 1, 1) := by decide +kernel
theorem dX7_triple_142 : decode cX7_triple 142 = .ok (.iastore, 1) := by decide +kernel
theorem dX7_triple_143 : decode cX7_triple 143 = .ok (.aload_n 0, 1) := by decide +kernel
theorem dX7_triple_144 : decode cX7_triple 144 = .ok (.getfield 7, 3) := by decide +kernel
theorem dX7_triple_147 : decode cX7_triple 147 = .ok (.iload 5, 2) := by decide +kernel
theorem dX7_triple_149 : decode cX7_triple 149 = .ok (.iconst 1, 1) := by decide +kernel
theorem dX7_triple_150 : decode cX7_triple 150 = .ok (.iadd, 1) := by decide +kernel
theorem dX7_triple_151 : decode cX7_triple 151 = .ok (.iload_n 2, 1) := by decide +kernel
theorem dX7_triple_152 : decode cX7_triple 152 = .ok (.iastore, 1) := by decide +kernel
theorem dX7_triple_153 : decode cX7_triple 153 = .ok (.aload_n 0, 1) := by decide +kernel
theorem dX7_triple_154 : decode cX7_triple 154 = .ok (.getfield 7, 3) := by decide +kernel
theorem dX7_triple_157 : decode cX7_triple 157 = .ok (.iload 5, 2) := by decide +kernel
theorem dX7_triple_159 : decode cX7_triple 159 = .ok (.iconst 2, 1) := by decide +kernel
theorem dX7_triple_160 : decode cX7_triple 160 = .ok (.iadd, 1) := by decide +kernel
theorem dX7_triple_161 : decode cX7_triple 161 = .ok (.iload_n 3, 1) := by decide +kernel
theorem dX7_triple_162 : decode cX7_triple 162 = .ok (.iastore, 1) := by decide +kernel
theorem dX7_triple_163 : decode cX7_triple 163 = .ok (.aload_n 0, 1) := by decide +kernel
theorem dX7_triple_164 : decode cX7_triple 164 = .ok (.getfield 7, 3) := by decide +kernel
theorem dX7_triple_167 : decode cX7_triple 167 = .ok (.iload 5, 2) := by decide +kernel
theorem dX7_triple_169 : decode cX7_triple 169 = .ok (.iconst 3, 1) := by decide +kernel
theorem dX7_triple_170 : decode cX7_triple 170 = .ok (.iadd, 1) := by decide +kernel
theorem dX7_triple_171 : decode cX7_triple 171 = .ok (.iload 4, 2) := by decide +kernel
theorem dX7_triple_173 : decode cX7_triple 173 = .ok (.iastore, 1) := by decide +kernel
theorem dX7_triple_174 : decode cX7_triple 174 = .ok (.aload_n 0, 1) := by decide +kernel
theorem dX7_triple_175 : decode cX7_triple 175 = .ok (.dup, 1) := by decide +kernel
theorem dX7_triple_176 : decode cX7_triple 176 = .ok (.getfield 49, 3) := by decide +kernel
theorem dX7_triple_179 : decode cX7_triple 179 = .ok (.iconst 1, 1) := by decide +kernel
theorem dX7_triple_180 : decode cX7_triple 180 = .ok (.iadd, 1) := by decide +kernel
theorem dX7_triple_181 : decode cX7_triple 181 = .ok (.putfield 49, 3) := by decide +kernel
theorem dX7_triple_184 : decode cX7_triple 184 = .ok (.aload_n 0, 1) := by decide +kernel
theorem dX7_triple_185 : decode cX7_triple 185 = .ok (.iconst 0, 1) := by decide +kernel
theorem dX7_triple_186 : decode cX7_triple 186 = .ok (.putfield 41, 3) := by decide +kernel
theorem dX7_triple_189 : decode cX7_triple 189 = .ok (.aload_n 0, 1) := by decide +kernel
theorem dX7_triple_190 : decode cX7_triple 190 = .ok (.getfield 49, 3) := by decide +kernel
theorem dX7_triple_193 : decode cX7_triple 193 = .ok (.iconst 1, 1) := by decide +kernel
theorem dX7_triple_194 : decode cX7_triple 194 = .ok (.isub, 1) := by decide +kernel
theorem dX7_triple_195 : decode cX7_triple 195 = .ok (.ireturn, 1) := by decide +kernel
theorem dX7_isExpression_0 : decode cX7_isExpression 0 = .ok (.iload_n 1, 1) := by decide +kernel
theorem dX7_isExpression_1 : decode cX7_isExpression 1 = .ok (.ifCond .lt 15, 3) := by decide +kernel
theorem dX7_isExpression_4 : decode cX7_isExpression 4 = .ok (.iload_n 1, 1) := by decide +kernel
theorem dX7_isExpression_5 : decode cX7_isExpression 5 = .ok (.aload_n 0, 1) := by decide +kernel
theorem dX7_isExpression_6 : decode cX7_isExpression 6 = .ok (.getfield 53, 3) := by decide +kernel
theorem dX7_isExpression_9 : decode cX7_isExpression 9 = .ok (.if_icmp .ge 7, 3) := by decide +kernel
theorem dX7_isExpression_12 : decode cX7_isExpression 12 = .ok (.iconst 1, 1) := by decide +kernel
theorem dX7_isExpression_13 : decode cX7_isExpression 13 = .ok (.goto 4, 3) := by decide +kernel
theorem dX7_isExpression_16 : decode cX7_isExpression 16 = .ok (.iconst 0, 1) := by decide +kernel
theorem dX7_isExpression_17 : decode cX7_isExpression 17 = .ok (.ireturn, 1) := by decide +kernel
theorem dX7_isVariable_0 : decode cX7_isVariable 0 = .ok (.iload_n 0, 1) := by decide +kernel
theorem dX7_isVariable_1 : decode cX7_isVariable 1 = .ok (.ifCond .lt 13, 3) := by decide +kernel
theorem dX7_isVariable_4 : decode cX7_isVariable 4 = .ok (.iload_n 0, 1) := by decide +kernel
theorem dX7_isVariable_5 : decode cX7_isVariable 5 = .ok (.bipush 6, 2) := by decide +kernel
theorem dX7_isVariable_7 : decode cX7_isVariable 7 = .ok (.if_icmp .ge 7, 3) := by decide +kernel
theorem dX7_isVariable_10 : decode cX7_isVariable 10 = .ok (.iconst 1, 1) := by decide +kernel
theorem dX7_isVariable_11 : decode cX7_isVariable 11 = .ok (.goto 4, 3) := by decide +kernel
theorem dX7_isVariable_14 : decode cX7_isVariable 14 = .ok (.iconst 0, 1) := by decide +kernel
theorem dX7_isVariable_15 : decode cX7_isVariable 15 = .ok (.ireturn, 1) := by decide +kernel
theorem dX7_express_0 : decode cX7_express 0 = .ok (.aload_n 0, 1) := by decide +kernel
theorem dX7_express_1 : decode cX7_express 1 = .ok (.getfield 13, 3) := by decide +kernel
theorem dX7_express_4 : decode cX7_express 4 = .ok (.iconst 3, 1) := by decide +kernel
theorem dX7_express_5 : decode cX7_express 5 = .ok (.aload_n 0, 1) := by decide +kernel
theorem dX7_express_6 : decode cX7_express 6 = .ok (.getfield 53, 3) := by decide +kernel
theorem dX7_express_9 : decode cX7_express 9 = .ok (.imul, 1) := by decide +kernel
theorem dX7_express_10 : decode cX7_express 10 = .ok (.iload_n 1, 1) := by decide +kernel
theorem dX7_express_11 : decode cX7_express 11 = .ok (.iastore, 1) := by decide +kernel
theorem dX7_express_12 : decode cX7_express 12 = .ok (.aload_n 0, 1) := by decide +kernel
theorem dX7_express_13 : decode cX7_express 13 = .ok (.getfield 13, 3) := by decide +kernel
theorem dX7_express_16 : decode cX7_express 16 = .ok (.iconst 3, 1) := by decide +kernel
theorem dX7_express_17 : decode cX7_express 17 = .ok (.aload_n 0, 1) := by decide +kernel
theorem dX7_express_18 : decode cX7_express 18 = .ok (.getfield 53, 3) := by decide +kernel
theorem dX7_express_21 : decode cX7_express 21 = .ok (.imul, 1) := by decide +kernel
theorem dX7_express_22 : decode cX7_express 22 = .ok (.iconst 1, 1) := by decide +kernel
theorem dX7_express_23 : decode cX7_express 23 = .ok (.iadd, 1) := by decide +kernel
theorem dX7_express_24 : decode cX7_express 24 = .ok (.iload_n 2, 1) := by decide +kernel
theorem dX7_express_25 : decode cX7_express 25 = .ok (.iastore, 1) := by decide +kernel
theorem dX7_express_26 : decode cX7_express 26 = .ok (.aload_n 0, 1) := by decide +kernel
theorem dX7_express_27 : decode cX7_express 27 = .ok (.getfield 13, 3) := by decide +kernel
theorem dX7_express_30 : decode cX7_express 30 = .ok (.iconst 3, 1) := by decide +kernel
theorem dX7_express_31 : decode cX7_express 31 = .ok (.aload_n 0, 1) := by decide +kernel
theorem dX7_express_32 : decode cX7_express 32 = .ok (.getfield 53, 3) := by decide +kernel
theorem dX7_express_35 : decode cX7_express 35 = .ok (.imul, 1) := by decide +kernel
theorem dX7_express_36 : decode cX7_express 36 = .ok (.iconst 2, 1) := by decide +kernel
theorem dX7_express_37 : decode cX7_express 37 = .ok (.iadd, 1) := by decide +kernel
theorem dX7_express_38 : decode cX7_express 38 = .ok (.iload_n 3, 1) := by decide +kernel
theorem dX7_express_39 : decode cX7_express 39 = .ok (.iastore, 1) := by decide +kernel
theorem dX7_express_40 : decode cX7_express 40 = .ok (.aload_n 0, 1) := by decide +kernel
theorem dX7_express_41 : decode cX7_express 41 = .ok (.dup, 1) := by decide +kernel
theorem dX7_express_42 : decode cX7_express 42 = .ok (.getfield 53, 3) := by decide +kernel
theorem dX7_express_45 : decode cX7_express 45 = .ok (.iconst 1, 1) := by decide +kernel
theorem dX7_express_46 : decode cX7_express 46 = .ok (.iadd, 1) := by decide +kernel
theorem dX7_express_47 : decode cX7_express 47 = .ok (.putfield 53, 3) := by decide +kernel
theorem dX7_express_50 : decode cX7_express 50 = .ok (.aload_n 0, 1) := by decide +kernel
theorem dX7_express_51 : decode cX7_express 51 = .ok (.getfield 53, 3) := by decide +kernel
theorem dX7_express_54 : decode cX7_express 54 = .ok (.iconst 1, 1) := by decide +kernel
theorem dX7_express_55 : decode cX7_express 55 = .ok (.isub, 1) := by decide +kernel
theorem dX7_express_56 : decode cX7_express 56 = .ok (.ireturn, 1) := by decide +kernel
theorem dX7_leaf_0 : decode cX7_leaf 0 = .ok (.iload_n 1, 1) := by decide +kernel
theorem dX7_leaf_1 : decode cX7_leaf 1 = .ok (.ifCond .ne 14, 3) := by decide +kernel
theorem dX7_leaf_4 : decode cX7_leaf 4 = .ok (.iload_n 2, 1) := by decide +kernel
theorem dX7_leaf_5 : decode cX7_leaf 5 = .ok (.ldc 56, 2) := by decide +kernel
theorem dX7_leaf_7 : decode cX7_leaf 7 = .ok (.ldc 57, 2) := by decide +kernel
theorem dX7_leaf_9 : decode cX7_leaf 9 = .ok (.invokestatic 45, 3) := by decide +kernel
theorem dX7_leaf_12 : decode cX7_leaf 12 = .ok (.goto 25, 3) := by decide +kernel
theorem dX7_leaf_15 : decode cX7_leaf 15 = .ok (.iload_n 1, 1) := by decide +kernel
theorem dX7_leaf_16 : decode cX7_leaf 16 = .ok (.iconst 1, 1) := by decide +kernel
theorem dX7_leaf_17 : decode cX7_leaf 17 = .ok (.if_icmp .eq 8, 3) := by decide +kernel
theorem dX7_leaf_20 : decode cX7_leaf 20 = .ok (.iload_n 1, 1) := by decide +kernel
theorem dX7_leaf_21 : decode cX7_leaf 21 = .ok (.iconst 2, 1) := by decide +kernel
theorem dX7_leaf_22 : decode cX7_leaf 22 = .ok (.if_icmp .ne 14, 3) := by decide +kernel
theorem dX7_leaf_25 : decode cX7_leaf 25 = .ok (.iload_n 2, 1) := by decide +kernel
theorem dX7_leaf_26 : decode cX7_leaf 26 = .ok (.invokestatic 58, 3) := by decide +kernel
theorem dX7_leaf_29 : decode cX7_leaf 29 = .ok (.ifCond .eq 7, 3) := by decide +kernel
theorem dX7_leaf_32 : decode cX7_leaf 32 = .ok (.iconst 1, 1) := by decide +kernel
theorem dX7_leaf_33 : decode cX7_leaf 33 = .ok (.goto 4, 3) := by decide +kernel
theorem dX7_leaf_36 : decode cX7_leaf 36 = .ok (.iconst 0, 1) := by decide +kernel
theorem dX7_leaf_37 : decode cX7_leaf 37 = .ok (.istore_n 3, 1) := by decide +kernel
theorem dX7_leaf_38 : decode cX7_leaf 38 = .ok (.iload_n 3, 1) := by decide +kernel
theorem dX7_leaf_39 : decode cX7_leaf 39 = .ok (.ifCond .eq 22, 3) := by decide +kernel
theorem dX7_leaf_42 : decode cX7_leaf 42 = .ok (.aload_n 0, 1) := by decide +kernel
theorem dX7_leaf_43 : decode cX7_leaf 43 = .ok (.getfield 53, 3) := by decide +kernel
theorem dX7_leaf_46 : decode cX7_leaf 46 = .ok (.bipush 30, 2) := by decide +kernel
theorem dX7_leaf_48 : decode cX7_leaf 48 = .ok (.if_icmp .ge 13, 3) := by decide +kernel
theorem dX7_leaf_51 : decode cX7_leaf 51 = .ok (.aload_n 0, 1) := by decide +kernel
theorem dX7_leaf_52 : decode cX7_leaf 52 = .ok (.iload_n 1, 1) := by decide +kernel
theorem dX7_leaf_53 : decode cX7_leaf 53 = .ok (.iload_n 2, 1) := by decide +kernel
theorem dX7_leaf_54 : decode cX7_leaf 54 = .ok (.iconst 0, 1) := by decide +kernel
theorem dX7_leaf_55 : decode cX7_leaf 55 = .ok (.invokevirtual 62, 3) := by decide +kernel
theorem dX7_leaf_58 : decode cX7_leaf 58 = .ok (.goto 4, 3) := by decide +kernel
theorem dX7_leaf_61 : decode cX7_leaf 61 = .ok (.iconst (-1), 1) := by decide +kernel
theorem dX7_leaf_62 : decode cX7_leaf 62 = .ok (.ireturn, 1) := by decide +kernel
theorem dX7_apply_0 : decode cX7_apply 0 = .ok (.iload_n 1, 1) := by decide +kernel
theorem dX7_apply_1 : decode cX7_apply 1 = .ok (.iconst 0, 1) := by decide +kernel
theorem dX7_apply_2 : decode cX7_apply 2 = .ok (.bipush 8, 2) := by decide +kernel
theorem dX7_apply_4 : decode cX7_apply 4 = .ok (.invokestatic 45, 3) := by decide +kernel
theorem dX7_apply_7 : decode cX7_apply 7 = .ok (.ifCond .eq 29, 3) := by decide +kernel
theorem dX7_apply_10 : decode cX7_apply 10 = .ok (.aload_n 0, 1) := by decide +kernel
theorem dX7_apply_11 : decode cX7_apply 11 = .ok (.iload_n 2, 1) := by decide +kernel
theorem dX7_apply_12 : decode cX7_apply 12 = .ok (.invokevirtual 66, 3) := by decide +kernel
theorem dX7_apply_15 : decode cX7_apply 15 = .ok (.ifCond .eq 21, 3) := by decide +kernel
theorem dX7_apply_18 : decode cX7_apply 18 = .ok (.iload_n 1, 1) := by decide +kernel
theorem dX7_apply_19 : decode cX7_apply 19 = .ok (.bipush 8, 2) := by decide +kernel
theorem dX7_apply_21 : decode cX7_apply 21 = .ok (.if_icmp .eq 11, 3) := by decide +kernel
theorem dX7_apply_24 : decode cX7_apply 24 = .ok (.aload_n 0, 1) := by decide +kernel
theorem dX7_apply_25 : decode cX7_apply 25 = .ok (.iload_n 3, 1) := by decide +kernel
theorem dX7_apply_26 : decode cX7_apply 26 = .ok (.invokevirtual 66, 3) := by decide +kernel
theorem dX7_apply_29 : decode cX7_apply 29 = .ok (.ifCond .eq 7, 3) := by decide +kernel
theorem dX7_apply_32 : decode cX7_apply 32 = .ok (.iconst 1, 1) := by decide +kernel
theorem dX7_apply_33 : decode cX7_apply 33 = .ok (.goto 4, 3) := by decide +kernel
theorem dX7_apply_36 : decode cX7_apply 36 = .ok (.iconst 0, 1) := by decide +kernel
theorem dX7_apply_37 : decode cX7_apply 37 = .ok (.istore 4, 2) := by decide +kernel
theorem dX7_apply_39 : decode cX7_apply 39 = .ok (.iload 4, 2) := by decide +kernel
theorem dX7_apply_41 : decode cX7_apply 41 = .ok (.ifCond .eq 25, 3) := by decide +kernel
theorem dX7_apply_44 : decode cX7_apply 44 = .ok (.aload_n 0, 1) := by decide +kernel
theorem dX7_apply_45 : decode cX7_apply 45 = .ok (.getfield 53, 3) := by decide +kernel
theorem dX7_apply_48 : decode cX7_apply 48 = .ok (.bipush 30, 2) := by decide +kernel
theorem dX7_apply_50 : decode cX7_apply 50 = .ok (.if_icmp .ge 16, 3) := by decide +kernel
theorem dX7_apply_53 : decode cX7_apply 53 = .ok (.aload_n 0, 1) := by decide +kernel
theorem dX7_apply_54 : decode cX7_apply 54 = .ok (.bipush 10, 2) := by decide +kernel
theorem dX7_apply_56 : decode cX7_apply 56 = .ok (.iload_n 1, 1) := by decide +kernel
theorem dX7_apply_57 : decode cX7_apply 57 = .ok (.iadd, 1) := by decide +kernel
theorem dX7_apply_58 : decode cX7_apply 58 = .ok (.iload_n 2, 1) := by decide +kernel
theorem dX7_apply_59 : decode cX7_apply 59 = .ok (.iload_n 3, 1) := by decide +kernel
theorem dX7_apply_60 : decode cX7_apply 60 = .ok (.invokevirtual 62, 3) := by decide +kernel
theorem dX7_apply_63 : decode cX7_apply 63 = .ok (.goto 4, 3) := by decide +kernel
theorem dX7_apply_66 : decode cX7_apply 66 = .ok (.iconst (-1), 1) := by decide +kernel
theorem dX7_apply_67 : decode cX7_apply 67 = .ok (.ireturn, 1) := by decide +kernel
theorem dX7_bounded_0 : decode cX7_bounded 0 = .ok (.lload_n 0, 1) := by decide +kernel
theorem dX7_bounded_1 : decode cX7_bounded 1 = .ok (.ldc2_w 69, 3) := by decide +kernel
theorem dX7_bounded_4 : decode cX7_bounded 4 = .ok (.lcmp, 1) := by decide +kernel
theorem dX7_bounded_5 : decode cX7_bounded 5 = .ok (.ifCond .lt 11, 3) := by decide +kernel
theorem dX7_bounded_8 : decode cX7_bounded 8 = .ok (.lload_n 0, 1) := by decide +kernel
theorem dX7_bounded_9 : decode cX7_bounded 9 = .ok (.ldc2_w 71, 3) := by decide +kernel
theorem dX7_bounded_12 : decode cX7_bounded 12 = .ok (.lcmp, 1) := by decide +kernel
theorem dX7_bounded_13 : decode cX7_bounded 13 = .ok (.ifCond .le 8, 3) := by decide +kernel
theorem dX7_bounded_16 : decode cX7_bounded 16 = .ok (.ldc 73, 2) := by decide +kernel
theorem dX7_bounded_18 : decode cX7_bounded 18 = .ok (.goto 5, 3) := by decide +kernel
theorem dX7_bounded_21 : decode cX7_bounded 21 = .ok (.lload_n 0, 1) := by decide +kernel
theorem dX7_bounded_22 : decode cX7_bounded 22 = .ok (.l2i, 1) := by decide +kernel
theorem dX7_bounded_23 : decode cX7_bounded 23 = .ok (.ireturn, 1) := by decide +kernel
theorem dX7_ofTwo_0 : decode cX7_ofTwo 0 = .ok (.iload_n 1, 1) := by decide +kernel
theorem dX7_ofTwo_1 : decode cX7_ofTwo 1 = .ok (.ldc 73, 2) := by decide +kernel
theorem dX7_ofTwo_3 : decode cX7_ofTwo 3 = .ok (.if_icmp .eq 9, 3) := by decide +kernel
theorem dX7_ofTwo_6 : decode cX7_ofTwo 6 = .ok (.iload_n 2, 1) := by decide +kernel
theorem dX7_ofTwo_7 : decode cX7_ofTwo 7 = .ok (.ldc 73, 2) := by decide +kernel
theorem dX7_ofTwo_9 : decode cX7_ofTwo 9 = .ok (.if_icmp .ne 7, 3) := by decide +kernel
theorem dX7_ofTwo_12 : decode cX7_ofTwo 12 = .ok (.iconst 1, 1) := by decide +kernel
theorem dX7_ofTwo_13 : decode cX7_ofTwo 13 = .ok (.goto 4, 3) := by decide +kernel
theorem dX7_ofTwo_16 : decode cX7_ofTwo 16 = .ok (.iconst 0, 1) := by decide +kernel
theorem dX7_ofTwo_17 : decode cX7_ofTwo 17 = .ok (.istore_n 3, 1) := by decide +kernel
theorem dX7_ofTwo_18 : decode cX7_ofTwo 18 = .ok (.iload_n 0, 1) := by decide +kernel
theorem dX7_ofTwo_19 : decode cX7_ofTwo 19 = .ok (.tableswitch 104 6 8 #[25, 48, 83], 25) := by decide +kernel
theorem dX7_ofTwo_44 : decode cX7_ofTwo 44 = .ok (.iload_n 1, 1) := by decide +kernel
theorem dX7_ofTwo_45 : decode cX7_ofTwo 45 = .ok (.ifCond .eq 7, 3) := by decide +kernel
theorem dX7_ofTwo_48 : decode cX7_ofTwo 48 = .ok (.iload_n 2, 1) := by decide +kernel
theorem dX7_ofTwo_49 : decode cX7_ofTwo 49 = .ok (.ifCond .ne 7, 3) := by decide +kernel
theorem dX7_ofTwo_52 : decode cX7_ofTwo 52 = .ok (.iconst 0, 1) := by decide +kernel
theorem dX7_ofTwo_53 : decode cX7_ofTwo 53 = .ok (.goto 13, 3) := by decide +kernel
theorem dX7_ofTwo_56 : decode cX7_ofTwo 56 = .ok (.iload_n 3, 1) := by decide +kernel
theorem dX7_ofTwo_57 : decode cX7_ofTwo 57 = .ok (.ifCond .eq 8, 3) := by decide +kernel
theorem dX7_ofTwo_60 : decode cX7_ofTwo 60 = .ok (.ldc 73, 2) := by decide +kernel
theorem dX7_ofTwo_62 : decode cX7_ofTwo 62 = .ok (.goto 4, 3) := by decide +kernel
theorem dX7_ofTwo_65 : decode cX7_ofTwo 65 = .ok (.iconst 1, 1) := by decide +kernel
theorem dX7_ofTwo_66 : decode cX7_ofTwo 66 = .ok (.ireturn, 1) := by decide +kernel
theorem dX7_ofTwo_67 : decode cX7_ofTwo 67 = .ok (.iload_n 1, 1) := by decide +kernel
theorem dX7_ofTwo_68 : decode cX7_ofTwo 68 = .ok (.ifCond .eq 9, 3) := by decide +kernel
theorem dX7_ofTwo_71 : decode cX7_ofTwo 71 = .ok (.iload_n 1, 1) := by decide +kernel
theorem dX7_ofTwo_72 : decode cX7_ofTwo 72 = .ok (.ldc 73, 2) := by decide +kernel
theorem dX7_ofTwo_74 : decode cX7_ofTwo 74 = .ok (.if_icmp .ne 13, 3) := by decide +kernel
theorem dX7_ofTwo_77 : decode cX7_ofTwo 77 = .ok (.iload_n 2, 1) := by decide +kernel
theorem dX7_ofTwo_78 : decode cX7_ofTwo 78 = .ok (.ifCond .eq 13, 3) := by decide +kernel
theorem dX7_ofTwo_81 : decode cX7_ofTwo 81 = .ok (.iload_n 2, 1) := by decide +kernel
theorem dX7_ofTwo_82 : decode cX7_ofTwo 82 = .ok (.ldc 73, 2) := by decide +kernel
theorem dX7_ofTwo_84 : decode cX7_ofTwo 84 = .ok (.if_icmp .eq 7, 3) := by decide +kernel
theorem dX7_ofTwo_87 : decode cX7_ofTwo 87 = .ok (.iconst 1, 1) := by decide +kernel
theorem dX7_ofTwo_88 : decode cX7_ofTwo 88 = .ok (.goto 13, 3) := by decide +kernel
theorem dX7_ofTwo_91 : decode cX7_ofTwo 91 = .ok (.iload_n 3, 1) := by decide +kernel
theorem dX7_ofTwo_92 : decode cX7_ofTwo 92 = .ok (.ifCond .eq 8, 3) := by decide +kernel
theorem dX7_ofTwo_95 : decode cX7_ofTwo 95 = .ok (.ldc 73, 2) := by decide +kernel
theorem dX7_ofTwo_97 : decode cX7_ofTwo 97 = .ok (.goto 4, 3) := by decide +kernel
theorem dX7_ofTwo_100 : decode cX7_ofTwo 100 = .ok (.iconst 0, 1) := by decide +kernel
theorem dX7_ofTwo_101 : decode cX7_ofTwo 101 = .ok (.ireturn, 1) := by decide +kernel
theorem dX7_ofTwo_102 : decode cX7_ofTwo 102 = .ok (.iload_n 1, 1) := by decide +kernel
theorem dX7_ofTwo_103 : decode cX7_ofTwo 103 = .ok (.ldc 73, 2) := by decide +kernel
theorem dX7_ofTwo_105 : decode cX7_ofTwo 105 = .ok (.if_icmp .ne 8, 3) := by decide +kernel
theorem dX7_ofTwo_108 : decode cX7_ofTwo 108 = .ok (.ldc 73, 2) := by decide +kernel
theorem dX7_ofTwo_110 : decode cX7_ofTwo 110 = .ok (.goto 12, 3) := by decide +kernel
theorem dX7_ofTwo_113 : decode cX7_ofTwo 113 = .ok (.iload_n 1, 1) := by decide +kernel
theorem dX7_ofTwo_114 : decode cX7_ofTwo 114 = .ok (.ifCond .ne 7, 3) := by decide +kernel
theorem dX7_ofTwo_117 : decode cX7_ofTwo 117 = .ok (.iconst 1, 1) := by decide +kernel
theorem dX7_ofTwo_118 : decode cX7_ofTwo 118 = .ok (.goto 4, 3) := by decide +kernel
theorem dX7_ofTwo_121 : decode cX7_ofTwo 121 = .ok (.iconst 0, 1) := by decide +kernel
theorem dX7_ofTwo_122 : decode cX7_ofTwo 122 = .ok (.ireturn, 1) := by decide +kernel
theorem dX7_ofTwo_123 : decode cX7_ofTwo 123 = .ok (.iload_n 3, 1) := by decide +kernel
theorem dX7_ofTwo_124 : decode cX7_ofTwo 124 = .ok (.ifCond .ne 12, 3) := by decide +kernel
theorem dX7_ofTwo_127 : decode cX7_ofTwo 127 = .ok (.iload_n 0, 1) := by decide +kernel
theorem dX7_ofTwo_128 : decode cX7_ofTwo 128 = .ok (.iconst 3, 1) := by decide +kernel
theorem dX7_ofTwo_129 : decode cX7_ofTwo 129 = .ok (.if_icmp .ne 10, 3) := by decide +kernel
theorem dX7_ofTwo_132 : decode cX7_ofTwo 132 = .ok (.iload_n 2, 1) := by decide +kernel
theorem dX7_ofTwo_133 : decode cX7_ofTwo 133 = .ok (.ifCond .ne 6, 3) := by decide +kernel
theorem dX7_ofTwo_136 : decode cX7_ofTwo 136 = .ok (.ldc 73, 2) := by decide +kernel
theorem dX7_ofTwo_138 : decode cX7_ofTwo 138 = .ok (.ireturn, 1) := by decide +kernel
theorem dX7_ofTwo_139 : decode cX7_ofTwo 139 = .ok (.iload_n 1, 1) := by decide +kernel
theorem dX7_ofTwo_140 : decode cX7_ofTwo 140 = .ok (.i2l, 1) := by decide +kernel
theorem dX7_ofTwo_141 : decode cX7_ofTwo 141 = .ok (.lstore 4, 2) := by decide +kernel
theorem dX7_ofTwo_143 : decode cX7_ofTwo 143 = .ok (.iload_n 0, 1) := by decide +kernel
theorem dX7_ofTwo_144 : decode cX7_ofTwo 144 = .ok (.tableswitch 83 0 4 #[36, 45, 54, 63, 72], 36) := by decide +kernel
theorem dX7_ofTwo_180 : decode cX7_ofTwo 180 = .ok (.lload 4, 2) := by decide +kernel
theorem dX7_ofTwo_182 : decode cX7_ofTwo 182 = .ok (.iload_n 2, 1) := by decide +kernel
theorem dX7_ofTwo_183 : decode cX7_ofTwo 183 = .ok (.i2l, 1) := by decide +kernel
theorem dX7_ofTwo_184 : decode cX7_ofTwo 184 = .ok (.ladd, 1) := by decide +kernel
theorem dX7_ofTwo_185 : decode cX7_ofTwo 185 = .ok (.invokestatic 74, 3) := by decide +kernel
theorem dX7_ofTwo_188 : decode cX7_ofTwo 188 = .ok (.ireturn, 1) := by decide +kernel
theorem dX7_ofTwo_189 : decode cX7_ofTwo 189 = .ok (.lload 4, 2) := by decide +kernel
theorem dX7_ofTwo_191 : decode cX7_ofTwo 191 = .ok (.iload_n 2, 1) := by decide +kernel
theorem dX7_ofTwo_192 : decode cX7_ofTwo 192 = .ok (.i2l, 1) := by decide +kernel
theorem dX7_ofTwo_193 : decode cX7_ofTwo 193 = .ok (.lsub, 1) := by decide +kernel
theorem dX7_ofTwo_194 : decode cX7_ofTwo 194 = .ok (.invokestatic 74, 3) := by decide +kernel
theorem dX7_ofTwo_197 : decode cX7_ofTwo 197 = .ok (.ireturn, 1) := by decide +kernel
theorem dX7_ofTwo_198 : decode cX7_ofTwo 198 = .ok (.lload 4, 2) := by decide +kernel
theorem dX7_ofTwo_200 : decode cX7_ofTwo 200 = .ok (.iload_n 2, 1) := by decide +kernel
theorem dX7_ofTwo_201 : decode cX7_ofTwo 201 = .ok (.i2l, 1) := by decide +kernel
theorem dX7_ofTwo_202 : decode cX7_ofTwo 202 = .ok (.lmul, 1) := by decide +kernel
theorem dX7_ofTwo_203 : decode cX7_ofTwo 203 = .ok (.invokestatic 74, 3) := by decide +kernel
theorem dX7_ofTwo_206 : decode cX7_ofTwo 206 = .ok (.ireturn, 1) := by decide +kernel
theorem dX7_ofTwo_207 : decode cX7_ofTwo 207 = .ok (.lload 4, 2) := by decide +kernel
theorem dX7_ofTwo_209 : decode cX7_ofTwo 209 = .ok (.iload_n 2, 1) := by decide +kernel
theorem dX7_ofTwo_210 : decode cX7_ofTwo 210 = .ok (.i2l, 1) := by decide +kernel
theorem dX7_ofTwo_211 : decode cX7_ofTwo 211 = .ok (.ldiv, 1) := by decide +kernel
theorem dX7_ofTwo_212 : decode cX7_ofTwo 212 = .ok (.invokestatic 74, 3) := by decide +kernel
theorem dX7_ofTwo_215 : decode cX7_ofTwo 215 = .ok (.ireturn, 1) := by decide +kernel
theorem dX7_ofTwo_216 : decode cX7_ofTwo 216 = .ok (.iload_n 1, 1) := by decide +kernel
theorem dX7_ofTwo_217 : decode cX7_ofTwo 217 = .ok (.iload_n 2, 1) := by decide +kernel
theorem dX7_ofTwo_218 : decode cX7_ofTwo 218 = .ok (.if_icmp .ge 7, 3) := by decide +kernel
theorem dX7_ofTwo_221 : decode cX7_ofTwo 221 = .ok (.iconst 1, 1) := by decide +kernel
theorem dX7_ofTwo_222 : decode cX7_ofTwo 222 = .ok (.goto 4, 3) := by decide +kernel
theorem dX7_ofTwo_225 : decode cX7_ofTwo 225 = .ok (.iconst 0, 1) := by decide +kernel
theorem dX7_ofTwo_226 : decode cX7_ofTwo 226 = .ok (.ireturn, 1) := by decide +kernel
theorem dX7_ofTwo_227 : decode cX7_ofTwo 227 = .ok (.iload_n 1, 1) := by decide +kernel
theorem dX7_ofTwo_228 : decode cX7_ofTwo 228 = .ok (.iload_n 2, 1) := by decide +kernel
theorem dX7_ofTwo_229 : decode cX7_ofTwo 229 = .ok (.if_icmp .ne 7, 3) := by decide +kernel
theorem dX7_ofTwo_232 : decode cX7_ofTwo 232 = .ok (.iconst 1, 1) := by decide +kernel
theorem dX7_ofTwo_233 : decode cX7_ofTwo 233 = .ok (.goto 4, 3) := by decide +kernel
theorem dX7_ofTwo_236 : decode cX7_ofTwo 236 = .ok (.iconst 0, 1) := by decide +kernel
theorem dX7_ofTwo_237 : decode cX7_ofTwo 237 = .ok (.ireturn, 1) := by decide +kernel
theorem dX7_valueOf_0 : decode cX7_valueOf 0 = .ok (.iconst 0, 1) := by decide +kernel
theorem dX7_valueOf_1 : decode cX7_valueOf 1 = .ok (.istore_n 2, 1) := by decide +kernel
theorem dX7_valueOf_2 : decode cX7_valueOf 2 = .ok (.iload_n 2, 1) := by decide +kernel
theorem dX7_valueOf_3 : decode cX7_valueOf 3 = .ok (.iload_n 1, 1) := by decide +kernel
theorem dX7_valueOf_4 : decode cX7_valueOf 4 = .ok (.if_icmp .gt 135, 3) := by decide +kernel
theorem dX7_valueOf_7 : decode cX7_valueOf 7 = .ok (.aload_n 0, 1) := by decide +kernel
theorem dX7_valueOf_8 : decode cX7_valueOf 8 = .ok (.getfield 13, 3) := by decide +kernel
theorem dX7_valueOf_11 : decode cX7_valueOf 11 = .ok (.iconst 3, 1) := by decide +kernel
theorem dX7_valueOf_12 : decode cX7_valueOf 12 = .ok (.iload_n 2, 1) := by decide +kernel
theorem dX7_valueOf_13 : decode cX7_valueOf 13 = .ok (.imul, 1) := by decide +kernel
theorem dX7_valueOf_14 : decode cX7_valueOf 14 = .ok (.iaload, 1) := by decide +kernel
theorem dX7_valueOf_15 : decode cX7_valueOf 15 = .ok (.istore_n 3, 1) := by decide +kernel
theorem dX7_valueOf_16 : decode cX7_valueOf 16 = .ok (.aload_n 0, 1) := by decide +kernel
theorem dX7_valueOf_17 : decode cX7_valueOf 17 = .ok (.getfield 13, 3) := by decide +kernel
theorem dX7_valueOf_20 : decode cX7_valueOf 20 = .ok (.iconst 3, 1) := by decide +kernel
theorem dX7_valueOf_21 : decode cX7_valueOf 21 = .ok (.iload_n 2, 1) := by decide +kernel
theorem dX7_valueOf_22 : decode cX7_valueOf 22 = .ok (.imul, 1) := by decide +kernel
theorem dX7_valueOf_23 : decode cX7_valueOf 23 = .ok (.iconst 1, 1) := by decide +kernel
theorem dX7_valueOf_24 : decode cX7_valueOf 24 = .ok (.iadd, 1) := by decide +kernel
theorem dX7_valueOf_25 : decode cX7_valueOf 25 = .ok (.iaload, 1) := by decide +kernel
theorem dX7_valueOf_26 : decode cX7_valueOf 26 = .ok (.istore 4, 2) := by decide +kernel
theorem dX7_valueOf_28 : decode cX7_valueOf 28 = .ok (.aload_n 0, 1) := by decide +kernel
theorem dX7_valueOf_29 : decode cX7_valueOf 29 = .ok (.getfield 13, 3) := by decide +kernel
theorem dX7_valueOf_32 : decode cX7_valueOf 32 = .ok (.iconst 3, 1) := by decide +kernel
theorem dX7_valueOf_33 : decode cX7_valueOf 33 = .ok (.iload_n 2, 1) := by decide +kernel
theorem dX7_valueOf_34 : decode cX7_valueOf 34 = .ok (.imul, 1) := by decide +kernel
theorem dX7_valueOf_35 : decode cX7_valueOf 35 = .ok (.iconst 2, 1) := by decide +kernel
theorem dX7_valueOf_36 : decode cX7_valueOf 36 = .ok (.iadd, 1) := by decide +kernel
theorem dX7_valueOf_37 : decode cX7_valueOf 37 = .ok (.iaload, 1) := by decide +kernel
theorem dX7_valueOf_38 : decode cX7_valueOf 38 = .ok (.istore 5, 2) := by decide +kernel
theorem dX7_valueOf_40 : decode cX7_valueOf 40 = .ok (.iload_n 3, 1) := by decide +kernel
theorem dX7_valueOf_41 : decode cX7_valueOf 41 = .ok (.bipush 10, 2) := by decide +kernel
theorem dX7_valueOf_43 : decode cX7_valueOf 43 = .ok (.if_icmp .ge 53, 3) := by decide +kernel
theorem dX7_valueOf_46 : decode cX7_valueOf 46 = .ok (.aload_n 0, 1) := by decide +kernel
theorem dX7_valueOf_47 : decode cX7_valueOf 47 = .ok (.getfield 16, 3) := by decide +kernel
theorem dX7_valueOf_50 : decode cX7_valueOf 50 = .ok (.iload_n 2, 1) := by decide +kernel
theorem dX7_valueOf_51 : decode cX7_valueOf 51 = .ok (.iload_n 3, 1) := by decide +kernel
theorem dX7_valueOf_52 : decode cX7_valueOf 52 = .ok (.ifCond .ne 8, 3) := by decide +kernel
theorem dX7_valueOf_55 : decode cX7_valueOf 55 = .ok (.iload 4, 2) := by decide +kernel
theorem dX7_valueOf_57 : decode cX7_valueOf 57 = .ok (.goto 35, 3) := by decide +kernel
theorem dX7_valueOf_60 : decode cX7_valueOf 60 = .ok (.iload_n 3, 1) := by decide +kernel
theorem dX7_valueOf_61 : decode cX7_valueOf 61 = .ok (.iconst 1, 1) := by decide +kernel
theorem dX7_valueOf_62 : decode cX7_valueOf 62 = .ok (.if_icmp .ne 13, 3) := by decide +kernel
theorem dX7_valueOf_65 : decode cX7_valueOf 65 = .ok (.aload_n 0, 1) := by decide +kernel
theorem dX7_valueOf_66 : decode cX7_valueOf 66 = .ok (.getfield 29, 3) := by decide +kernel
theorem dX7_valueOf_69 : decode cX7_valueOf 69 = .ok (.iload 4, 2) := by decide +kernel
theorem dX7_valueOf_71 : decode cX7_valueOf 71 = .ok (.iaload, 1) := by decide +kernel
theorem dX7_valueOf_72 : decode cX7_valueOf 72 = .ok (.goto 20, 3) := by decide +kernel
theorem dX7_valueOf_75 : decode cX7_valueOf 75 = .ok (.aload_n 0, 1) := by decide +kernel
theorem dX7_valueOf_76 : decode cX7_valueOf 76 = .ok (.getfield 29, 3) := by decide +kernel
theorem dX7_valueOf_79 : decode cX7_valueOf 79 = .ok (.iload 4, 2) := by decide +kernel
theorem dX7_valueOf_81 : decode cX7_valueOf 81 = .ok (.iaload, 1) := by decide +kernel
theorem dX7_valueOf_82 : decode cX7_valueOf 82 = .ok (.ldc 73, 2) := by decide +kernel
theorem dX7_valueOf_84 : decode cX7_valueOf 84 = .ok (.if_icmp .ne 7, 3) := by decide +kernel
theorem dX7_valueOf_87 : decode cX7_valueOf 87 = .ok (.iconst 0, 1) := by decide +kernel
theorem dX7_valueOf_88 : decode cX7_valueOf 88 = .ok (.goto 4, 3) := by decide +kernel
theorem dX7_valueOf_91 : decode cX7_valueOf 91 = .ok (.iconst 1, 1) := by decide +kernel
theorem dX7_valueOf_92 : decode cX7_valueOf 92 = .ok (.iastore, 1) := by decide +kernel
theorem dX7_valueOf_93 : decode cX7_valueOf 93 = .ok (.goto 40, 3) := by decide +kernel
theorem dX7_valueOf_96 : decode cX7_valueOf 96 = .ok (.aload_n 0, 1) := by decide +kernel
theorem dX7_valueOf_97 : decode cX7_valueOf 97 = .ok (.getfield 16, 3) := by decide +kernel
theorem dX7_valueOf_100 : decode cX7_valueOf 100 = .ok (.iload_n 2, 1) := by decide +kernel
theorem dX7_valueOf_101 : decode cX7_valueOf 101 = .ok (.iload_n 3, 1) := by decide +kernel
theorem dX7_valueOf_102 : decode cX7_valueOf 102 = .ok (.bipush 10, 2) := by decide +kernel
theorem dX7_valueOf_104 : decode cX7_valueOf 104 = .ok (.isub, 1) := by decide +kernel
theorem dX7_valueOf_105 : decode cX7_valueOf 105 = .ok (.aload_n 0, 1) := by decide +kernel
theorem dX7_valueOf_106 : decode cX7_valueOf 106 = .ok (.getfield 16, 3) := by decide +kernel
theorem dX7_valueOf_109 : decode cX7_valueOf 109 = .ok (.iload 4, 2) := by decide +kernel
theorem dX7_valueOf_111 : decode cX7_valueOf 111 = .ok (.iaload, 1) := by decide +kernel
theorem dX7_valueOf_112 : decode cX7_valueOf 112 = .ok (.iload_n 3, 1) := by decide +kernel
theorem dX7_valueOf_113 : decode cX7_valueOf 113 = .ok (.bipush 18, 2) := by decide +kernel
theorem dX7_valueOf_115 : decode cX7_valueOf 115 = .ok (.if_icmp .ne 7, 3) := by decide +kernel
theorem dX7_valueOf_118 : decode cX7_valueOf 118 = .ok (.iconst 0, 1) := by decide +kernel
theorem dX7_valueOf_119 : decode cX7_valueOf 119 = .ok (.goto 10, 3) := by decide +kernel
theorem dX7_valueOf_122 : decode cX7_valueOf 122 = .ok (.aload_n 0, 1) := by decide +kernel
theorem dX7_valueOf_123 : decode cX7_valueOf 123 = .ok (.getfield 16, 3) := by decide +kernel
theorem dX7_valueOf_126 : decode cX7_valueOf 126 = .ok (.iload 5, 2) := by decide +kernel
theorem dX7_valueOf_128 : decode cX7_valueOf 128 = .ok (.iaload, 1) := by decide +kernel
theorem dX7_valueOf_129 : decode cX7_valueOf 129 = .ok (.invokestatic 78, 3) := by decide +kernel
theorem dX7_valueOf_132 : decode cX7_valueOf 132 = .ok (.iastore, 1) := by decide +kernel
theorem dX7_valueOf_133 : decode cX7_valueOf 133 = .ok (.iinc 2 1, 3) := by decide +kernel
theorem dX7_valueOf_136 : decode cX7_valueOf 136 = .ok (.goto (-134), 3) := by decide +kernel
theorem dX7_valueOf_139 : decode cX7_valueOf 139 = .ok (.aload_n 0, 1) := by decide +kernel
theorem dX7_valueOf_140 : decode cX7_valueOf 140 = .ok (.getfield 16, 3) := by decide +kernel
theorem dX7_valueOf_143 : decode cX7_valueOf 143 = .ok (.iload_n 1, 1) := by decide +kernel
theorem dX7_valueOf_144 : decode cX7_valueOf 144 = .ok (.iaload, 1) := by decide +kernel
theorem dX7_valueOf_145 : decode cX7_valueOf 145 = .ok (.ireturn, 1) := by decide +kernel
theorem dX7_isTrue_0 : decode cX7_isTrue 0 = .ok (.aload_n 0, 1) := by decide +kernel
theorem dX7_isTrue_1 : decode cX7_isTrue 1 = .ok (.iload_n 1, 1) := by decide +kernel
theorem dX7_isTrue_2 : decode cX7_isTrue 2 = .ok (.invokevirtual 81, 3) := by decide +kernel
theorem dX7_isTrue_5 : decode cX7_isTrue 5 = .ok (.istore_n 2, 1) := by decide +kernel
theorem dX7_isTrue_6 : decode cX7_isTrue 6 = .ok (.iload_n 2, 1) := by decide +kernel
theorem dX7_isTrue_7 : decode cX7_isTrue 7 = .ok (.ldc 73, 2) := by decide +kernel
theorem dX7_isTrue_9 : decode cX7_isTrue 9 = .ok (.if_icmp .eq 11, 3) := by decide +kernel
theorem dX7_isTrue_12 : decode cX7_isTrue 12 = .ok (.iload_n 2, 1) := by decide +kernel
theorem dX7_isTrue_13 : decode cX7_isTrue 13 = .ok (.ifCond .eq 7, 3) := by decide +kernel
theorem dX7_isTrue_16 : decode cX7_isTrue 16 = .ok (.iconst 1, 1) := by decide +kernel
theorem dX7_isTrue_17 : decode cX7_isTrue 17 = .ok (.goto 4, 3) := by decide +kernel
theorem dX7_isTrue_20 : decode cX7_isTrue 20 = .ok (.iconst 0, 1) := by decide +kernel
theorem dX7_isTrue_21 : decode cX7_isTrue 21 = .ok (.ireturn, 1) := by decide +kernel
theorem dX7_isNode_0 : decode cX7_isNode 0 = .ok (.iload_n 1, 1) := by decide +kernel
theorem dX7_isNode_1 : decode cX7_isNode 1 = .ok (.ifCond .lt 15, 3) := by decide +kernel
theorem dX7_isNode_4 : decode cX7_isNode 4 = .ok (.iload_n 1, 1) := by decide +kernel
theorem dX7_isNode_5 : decode cX7_isNode 5 = .ok (.aload_n 0, 1) := by decide +kernel
theorem dX7_isNode_6 : decode cX7_isNode 6 = .ok (.getfield 85, 3) := by decide +kernel
theorem dX7_isNode_9 : decode cX7_isNode 9 = .ok (.if_icmp .ge 7, 3) := by decide +kernel
theorem dX7_isNode_12 : decode cX7_isNode 12 = .ok (.iconst 1, 1) := by decide +kernel
theorem dX7_isNode_13 : decode cX7_isNode 13 = .ok (.goto 4, 3) := by decide +kernel
theorem dX7_isNode_16 : decode cX7_isNode 16 = .ok (.iconst 0, 1) := by decide +kernel
theorem dX7_isNode_17 : decode cX7_isNode 17 = .ok (.ireturn, 1) := by decide +kernel
theorem dX7_make_0 : decode cX7_make 0 = .ok (.iload_n 1, 1) := by decide +kernel
theorem dX7_make_1 : decode cX7_make 1 = .ok (.ifCond .eq 12, 3) := by decide +kernel
theorem dX7_make_4 : decode cX7_make 4 = .ok (.aload_n 0, 1) := by decide +kernel
theorem dX7_make_5 : decode cX7_make 5 = .ok (.getfield 85, 3) := by decide +kernel
theorem dX7_make_8 : decode cX7_make 8 = .ok (.bipush 30, 2) := by decide +kernel
theorem dX7_make_10 : decode cX7_make 10 = .ok (.if_icmp .ne 5, 3) := by decide +kernel
theorem dX7_make_13 : decode cX7_make 13 = .ok (.iconst (-1), 1) := by decide +kernel
theorem dX7_make_14 : decode cX7_make 14 = .ok (.ireturn, 1) := by decide +kernel
theorem dX7_make_15 : decode cX7_make 15 = .ok (.bipush 6, 2) := by decide +kernel
theorem dX7_make_17 : decode cX7_make 17 = .ok (.aload_n 0, 1) := by decide +kernel
theorem dX7_make_18 : decode cX7_make 18 = .ok (.getfield 85, 3) := by decide +kernel
theorem dX7_make_21 : decode cX7_make 21 = .ok (.imul, 1) := by decide +kernel
theorem dX7_make_22 : decode cX7_make 22 = .ok (.istore 8, 2) := by decide +kernel
theorem dX7_make_24 : decode cX7_make 24 = .ok (.aload_n 0, 1) := by decide +kernel
theorem dX7_make_25 : decode cX7_make 25 = .ok (.getfield 19, 3) := by decide +kernel
theorem dX7_make_28 : decode cX7_make 28 = .ok (.iload 8, 2) := by decide +kernel
theorem dX7_make_30 : decode cX7_make 30 = .ok (.iload_n 2, 1) := by decide +kernel
theorem dX7_make_31 : decode cX7_make 31 = .ok (.iastore, 1) := by decide +kernel
theorem dX7_make_32 : decode cX7_make 32 = .ok (.aload_n 0, 1) := by decide +kernel
theorem dX7_make_33 : decode cX7_make 33 = .ok (.getfield 19, 3) := by decide +kernel
theorem dX7_make_36 : decode cX7_make 36 = .ok (.iload 8, 2) := by decide +kernel
theorem dX7_make_38 : decode cX7_make 38 = .ok (.iconst 1, 1) := by decide +kernel
theorem dX7_make_39 : decode cX7_make 39 = .ok (.iadd, 1) := by decide +kernel
theorem dX7_make_40 : decode cX7_make 40 = .ok (.iload_n 3, 1) := by decide +kernel
theorem dX7_make_41 : decode cX7_make 41 = .ok (.iastore, 1) := by decide +kernel
theorem dX7_make_42 : decode cX7_make 42 = .ok (.aload_n 0, 1) := by decide +kernel
theorem dX7_make_43 : decode cX7_make 43 = .ok (.getfield 19, 3) := by decide +kernel
theorem dX7_make_46 : decode cX7_make 46 = .ok (.iload 8, 2) := by decide +kernel
theorem dX7_make_48 : decode cX7_make 48 = .ok (.iconst 2, 1) := by decide +kernel
theorem dX7_make_49 : decode cX7_make 49 = .ok (.iadd, 1) := by decide +kernel
theorem dX7_make_50 : decode cX7_make 50 = .ok (.iload 4, 2) := by decide +kernel
theorem dX7_make_52 : decode cX7_make 52 = .ok (.iastore, 1) := by decide +kernel
theorem dX7_make_53 : decode cX7_make 53 = .ok (.aload_n 0, 1) := by decide +kernel
theorem dX7_make_54 : decode cX7_make 54 = .ok (.getfield 19, 3) := by decide +kernel
theorem dX7_make_57 : decode cX7_make 57 = .ok (.iload 8, 2) := by decide +kernel
theorem dX7_make_59 : decode cX7_make 59 = .ok (.iconst 3, 1) := by decide +kernel
theorem dX7_make_60 : decode cX7_make 60 = .ok (.iadd, 1) := by decide +kernel
theorem dX7_make_61 : decode cX7_make 61 = .ok (.iload 5, 2) := by decide +kernel
theorem dX7_make_63 : decode cX7_make 63 = .ok (.iastore, 1) := by decide +kernel
theorem dX7_make_64 : decode cX7_make 64 = .ok (.aload_n 0, 1) := by decide +kernel
theorem dX7_make_65 : decode cX7_make 65 = .ok (.getfield 19, 3) := by decide +kernel
theorem dX7_make_68 : decode cX7_make 68 = .ok (.iload 8, 2) := by decide +kernel
theorem dX7_make_70 : decode cX7_make 70 = .ok (.iconst 4, 1) := by decide +kernel
theorem dX7_make_71 : decode cX7_make 71 = .ok (.iadd, 1) := by decide +kernel
theorem dX7_make_72 : decode cX7_make 72 = .ok (.iload 6, 2) := by decide +kernel
theorem dX7_make_74 : decode cX7_make 74 = .ok (.iastore, 1) := by decide +kernel
theorem dX7_make_75 : decode cX7_make 75 = .ok (.aload_n 0, 1) := by decide +kernel
theorem dX7_make_76 : decode cX7_make 76 = .ok (.getfield 19, 3) := by decide +kernel
theorem dX7_make_79 : decode cX7_make 79 = .ok (.iload 8, 2) := by decide +kernel
theorem dX7_make_81 : decode cX7_make 81 = .ok (.iconst 5, 1) := by decide +kernel
theorem dX7_make_82 : decode cX7_make 82 = .ok (.iadd, 1) := by decide +kernel
theorem dX7_make_83 : decode cX7_make 83 = .ok (.iload 7, 2) := by decide +kernel
theorem dX7_make_85 : decode cX7_make 85 = .ok (.iastore, 1) := by decide +kernel
theorem dX7_make_86 : decode cX7_make 86 = .ok (.aload_n 0, 1) := by decide +kernel
theorem dX7_make_87 : decode cX7_make 87 = .ok (.dup, 1) := by decide +kernel
theorem dX7_make_88 : decode cX7_make 88 = .ok (.getfield 85, 3) := by decide +kernel
theorem dX7_make_91 : decode cX7_make 91 = .ok (.iconst 1, 1) := by decide +kernel
theorem dX7_make_92 : decode cX7_make 92 = .ok (.iadd, 1) := by decide +kernel
theorem dX7_make_93 : decode cX7_make 93 = .ok (.putfield 85, 3) := by decide +kernel
theorem dX7_make_96 : decode cX7_make 96 = .ok (.aload_n 0, 1) := by decide +kernel
theorem dX7_make_97 : decode cX7_make 97 = .ok (.iconst 0, 1) := by decide +kernel
theorem dX7_make_98 : decode cX7_make 98 = .ok (.putfield 41, 3) := by decide +kernel
theorem dX7_make_101 : decode cX7_make 101 = .ok (.aload_n 0, 1) := by decide +kernel
theorem dX7_make_102 : decode cX7_make 102 = .ok (.getfield 85, 3) := by decide +kernel
theorem dX7_make_105 : decode cX7_make 105 = .ok (.iconst 1, 1) := by decide +kernel
theorem dX7_make_106 : decode cX7_make 106 = .ok (.isub, 1) := by decide +kernel
theorem dX7_make_107 : decode cX7_make 107 = .ok (.ireturn, 1) := by decide +kernel
theorem dX7_isPart_0 : decode cX7_isPart 0 = .ok (.iload_n 0, 1) := by decide +kernel
theorem dX7_isPart_1 : decode cX7_isPart 1 = .ok (.bipush (-6), 2) := by decide +kernel
theorem dX7_isPart_3 : decode cX7_isPart 3 = .ok (.sipush 999, 3) := by decide +kernel
theorem dX7_isPart_6 : decode cX7_isPart 6 = .ok (.invokestatic 45, 3) := by decide +kernel
theorem dX7_isPart_9 : decode cX7_isPart 9 = .ok (.ireturn, 1) := by decide +kernel
theorem dX7_pattern_0 : decode cX7_pattern 0 = .ok (.aload_n 0, 1) := by decide +kernel
theorem dX7_pattern_1 : decode cX7_pattern 1 = .ok (.iload_n 1, 1) := by decide +kernel
theorem dX7_pattern_2 : decode cX7_pattern 2 = .ok (.invokestatic 88, 3) := by decide +kernel
theorem dX7_pattern_5 : decode cX7_pattern 5 = .ok (.ifCond .eq 21, 3) := by decide +kernel
theorem dX7_pattern_8 : decode cX7_pattern 8 = .ok (.iload_n 2, 1) := by decide +kernel
theorem dX7_pattern_9 : decode cX7_pattern 9 = .ok (.invokestatic 88, 3) := by decide +kernel
theorem dX7_pattern_12 : decode cX7_pattern 12 = .ok (.ifCond .eq 14, 3) := by decide +kernel
theorem dX7_pattern_15 : decode cX7_pattern 15 = .ok (.iload_n 3, 1) := by decide +kernel
theorem dX7_pattern_16 : decode cX7_pattern 16 = .ok (.invokestatic 88, 3) := by decide +kernel
theorem dX7_pattern_19 : decode cX7_pattern 19 = .ok (.ifCond .eq 7, 3) := by decide +kernel
theorem dX7_pattern_22 : decode cX7_pattern 22 = .ok (.iconst 1, 1) := by decide +kernel
theorem dX7_pattern_23 : decode cX7_pattern 23 = .ok (.goto 4, 3) := by decide +kernel
theorem dX7_pattern_26 : decode cX7_pattern 26 = .ok (.iconst 0, 1) := by decide +kernel
theorem dX7_pattern_27 : decode cX7_pattern 27 = .ok (.iconst 0, 1) := by decide +kernel
theorem dX7_pattern_28 : decode cX7_pattern 28 = .ok (.iload_n 1, 1) := by decide +kernel
theorem dX7_pattern_29 : decode cX7_pattern 29 = .ok (.iload_n 2, 1) := by decide +kernel
theorem dX7_pattern_30 : decode cX7_pattern 30 = .ok (.iload_n 3, 1) := by decide +kernel
theorem dX7_pattern_31 : decode cX7_pattern 31 = .ok (.iconst 0, 1) := by decide +kernel
theorem dX7_pattern_32 : decode cX7_pattern 32 = .ok (.iconst 0, 1) := by decide +kernel
theorem dX7_pattern_33 : decode cX7_pattern 33 = .ok (.invokevirtual 91, 3) := by decide +kernel
theorem dX7_pattern_36 : decode cX7_pattern 36 = .ok (.ireturn, 1) := by decide +kernel
theorem dX7_both_0 : decode cX7_both 0 = .ok (.aload_n 0, 1) := by decide +kernel
theorem dX7_both_1 : decode cX7_both 1 = .ok (.iload_n 1, 1) := by decide +kernel
theorem dX7_both_2 : decode cX7_both 2 = .ok (.iconst 0, 1) := by decide +kernel
theorem dX7_both_3 : decode cX7_both 3 = .ok (.iconst 2, 1) := by decide +kernel
theorem dX7_both_4 : decode cX7_both 4 = .ok (.invokestatic 45, 3) := by decide +kernel
theorem dX7_both_7 : decode cX7_both 7 = .ok (.ifCond .eq 23, 3) := by decide +kernel
theorem dX7_both_10 : decode cX7_both 10 = .ok (.aload_n 0, 1) := by decide +kernel
theorem dX7_both_11 : decode cX7_both 11 = .ok (.iload_n 2, 1) := by decide +kernel
theorem dX7_both_12 : decode cX7_both 12 = .ok (.invokevirtual 95, 3) := by decide +kernel
theorem dX7_both_15 : decode cX7_both 15 = .ok (.ifCond .eq 15, 3) := by decide +kernel
theorem dX7_both_18 : decode cX7_both 18 = .ok (.aload_n 0, 1) := by decide +kernel
theorem dX7_both_19 : decode cX7_both 19 = .ok (.iload_n 3, 1) := by decide +kernel
theorem dX7_both_20 : decode cX7_both 20 = .ok (.invokevirtual 95, 3) := by decide +kernel
theorem dX7_both_23 : decode cX7_both 23 = .ok (.ifCond .eq 7, 3) := by decide +kernel
theorem dX7_both_26 : decode cX7_both 26 = .ok (.iconst 1, 1) := by decide +kernel
theorem dX7_both_27 : decode cX7_both 27 = .ok (.goto 4, 3) := by decide +kernel
theorem dX7_both_30 : decode cX7_both 30 = .ok (.iconst 0, 1) := by decide +kernel
theorem dX7_both_31 : decode cX7_both 31 = .ok (.iconst 1, 1) := by decide +kernel
theorem dX7_both_32 : decode cX7_both 32 = .ok (.iload_n 1, 1) := by decide +kernel
theorem dX7_both_33 : decode cX7_both 33 = .ok (.iadd, 1) := by decide +kernel
theorem dX7_both_34 : decode cX7_both 34 = .ok (.iload_n 2, 1) := by decide +kernel
theorem dX7_both_35 : decode cX7_both 35 = .ok (.iload_n 3, 1) := by decide +kernel
theorem dX7_both_36 : decode cX7_both 36 = .ok (.iconst 0, 1) := by decide +kernel
theorem dX7_both_37 : decode cX7_both 37 = .ok (.iconst 0, 1) := by decide +kernel
theorem dX7_both_38 : decode cX7_both 38 = .ok (.iconst 0, 1) := by decide +kernel
theorem dX7_both_39 : decode cX7_both 39 = .ok (.invokevirtual 91, 3) := by decide +kernel
theorem dX7_both_42 : decode cX7_both 42 = .ok (.ireturn, 1) := by decide +kernel
theorem dX7_left_0 : decode cX7_left 0 = .ok (.aload_n 0, 1) := by decide +kernel
theorem dX7_left_1 : decode cX7_left 1 = .ok (.aload_n 0, 1) := by decide +kernel
theorem dX7_left_2 : decode cX7_left 2 = .ok (.iload_n 1, 1) := by decide +kernel
theorem dX7_left_3 : decode cX7_left 3 = .ok (.invokevirtual 95, 3) := by decide +kernel
theorem dX7_left_6 : decode cX7_left 6 = .ok (.ifCond .eq 28, 3) := by decide +kernel
theorem dX7_left_9 : decode cX7_left 9 = .ok (.aload_n 0, 1) := by decide +kernel
theorem dX7_left_10 : decode cX7_left 10 = .ok (.iload_n 2, 1) := by decide +kernel
theorem dX7_left_11 : decode cX7_left 11 = .ok (.invokevirtual 95, 3) := by decide +kernel
theorem dX7_left_14 : decode cX7_left 14 = .ok (.ifCond .eq 20, 3) := by decide +kernel
theorem dX7_left_17 : decode cX7_left 17 = .ok (.iload_n 3, 1) := by decide +kernel
theorem dX7_left_18 : decode cX7_left 18 = .ok (.iconst (-1), 1) := by decide +kernel
theorem dX7_left_19 : decode cX7_left 19 = .ok (.if_icmp .eq 11, 3) := by decide +kernel
theorem dX7_left_22 : decode cX7_left 22 = .ok (.aload_n 0, 1) := by decide +kernel
theorem dX7_left_23 : decode cX7_left 23 = .ok (.iload_n 3, 1) := by decide +kernel
theorem dX7_left_24 : decode cX7_left 24 = .ok (.invokevirtual 66, 3) := by decide +kernel
theorem dX7_left_27 : decode cX7_left 27 = .ok (.ifCond .eq 7, 3) := by decide +kernel
theorem dX7_left_30 : decode cX7_left 30 = .ok (.iconst 1, 1) := by decide +kernel
theorem dX7_left_31 : decode cX7_left 31 = .ok (.goto 4, 3) := by decide +kernel
theorem dX7_left_34 : decode cX7_left 34 = .ok (.iconst 0, 1) := by decide +kernel
theorem dX7_left_35 : decode cX7_left 35 = .ok (.iconst 4, 1) := by decide +kernel
theorem dX7_left_36 : decode cX7_left 36 = .ok (.iload_n 1, 1) := by decide +kernel
theorem dX7_left_37 : decode cX7_left 37 = .ok (.iload_n 2, 1) := by decide +kernel
theorem dX7_left_38 : decode cX7_left 38 = .ok (.iload_n 3, 1) := by decide +kernel
theorem dX7_left_39 : decode cX7_left 39 = .ok (.iconst 0, 1) := by decide +kernel
theorem dX7_left_40 : decode cX7_left 40 = .ok (.iconst 0, 1) := by decide +kernel
theorem dX7_left_41 : decode cX7_left 41 = .ok (.invokevirtual 91, 3) := by decide +kernel
theorem dX7_left_44 : decode cX7_left 44 = .ok (.ireturn, 1) := by decide +kernel
theorem dX7_filter_0 : decode cX7_filter 0 = .ok (.aload_n 0, 1) := by decide +kernel
theorem dX7_filter_1 : decode cX7_filter 1 = .ok (.aload_n 0, 1) := by decide +kernel
theorem dX7_filter_2 : decode cX7_filter 2 = .ok (.iload_n 1, 1) := by decide +kernel
theorem dX7_filter_3 : decode cX7_filter 3 = .ok (.invokevirtual 95, 3) := by decide +kernel
theorem dX7_filter_6 : decode cX7_filter 6 = .ok (.ifCond .eq 15, 3) := by decide +kernel
theorem dX7_filter_9 : decode cX7_filter 9 = .ok (.aload_n 0, 1) := by decide +kernel
theorem dX7_filter_10 : decode cX7_filter 10 = .ok (.iload_n 2, 1) := by decide +kernel
theorem dX7_filter_11 : decode cX7_filter 11 = .ok (.invokevirtual 66, 3) := by decide +kernel
theorem dX7_filter_14 : decode cX7_filter 14 = .ok (.ifCond .eq 7, 3) := by decide +kernel
theorem dX7_filter_17 : decode cX7_filter 17 = .ok (.iconst 1, 1) := by decide +kernel
theorem dX7_filter_18 : decode cX7_filter 18 = .ok (.goto 4, 3) := by decide +kernel
theorem dX7_filter_21 : decode cX7_filter 21 = .ok (.iconst 0, 1) := by decide +kernel
theorem dX7_filter_22 : decode cX7_filter 22 = .ok (.iconst 5, 1) := by decide +kernel
theorem dX7_filter_23 : decode cX7_filter 23 = .ok (.iload_n 1, 1) := by decide +kernel
theorem dX7_filter_24 : decode cX7_filter 24 = .ok (.iload_n 2, 1) := by decide +kernel
theorem dX7_filter_25 : decode cX7_filter 25 = .ok (.iconst 0, 1) := by decide +kernel
theorem dX7_filter_26 : decode cX7_filter 26 = .ok (.iconst 0, 1) := by decide +kernel
theorem dX7_filter_27 : decode cX7_filter 27 = .ok (.iconst 0, 1) := by decide +kernel
theorem dX7_filter_28 : decode cX7_filter 28 = .ok (.invokevirtual 91, 3) := by decide +kernel
theorem dX7_filter_31 : decode cX7_filter 31 = .ok (.ireturn, 1) := by decide +kernel
theorem dX7_extend_0 : decode cX7_extend 0 = .ok (.aload_n 0, 1) := by decide +kernel
theorem dX7_extend_1 : decode cX7_extend 1 = .ok (.aload_n 0, 1) := by decide +kernel
theorem dX7_extend_2 : decode cX7_extend 2 = .ok (.iload_n 1, 1) := by decide +kernel
theorem dX7_extend_3 : decode cX7_extend 3 = .ok (.invokevirtual 95, 3) := by decide +kernel
theorem dX7_extend_6 : decode cX7_extend 6 = .ok (.ifCond .eq 22, 3) := by decide +kernel
theorem dX7_extend_9 : decode cX7_extend 9 = .ok (.iload_n 2, 1) := by decide +kernel
theorem dX7_extend_10 : decode cX7_extend 10 = .ok (.invokestatic 58, 3) := by decide +kernel
theorem dX7_extend_13 : decode cX7_extend 13 = .ok (.ifCond .eq 15, 3) := by decide +kernel
