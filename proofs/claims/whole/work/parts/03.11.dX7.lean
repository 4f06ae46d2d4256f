theorem dX7_reckonEach_189 : decode cX7_reckonEach 189 = .ok (.goto (-37), 3) := by decide +kernel
theorem dX7_reckonEach_192 : decode cX7_reckonEach 192 = .ok (.goto 33, 3) := by decide +kernel
theorem dX7_reckonEach_195 : decode cX7_reckonEach 195 = .ok (.iload_n 3, 1) := by decide +kernel
theorem dX7_reckonEach_196 : decode cX7_reckonEach 196 = .ok (.bipush 9, 2) := by decide +kernel
theorem dX7_reckonEach_198 : decode cX7_reckonEach 198 = .ok (.if_icmp .ne 27, 3) := by decide +kernel
theorem dX7_reckonEach_201 : decode cX7_reckonEach 201 = .ok (.iload 6, 2) := by decide +kernel
theorem dX7_reckonEach_203 : decode cX7_reckonEach 203 = .ok (.iload 4, 2) := by decide +kernel
theorem dX7_reckonEach_205 : decode cX7_reckonEach 205 = .ok (.if_icmp .lt 17, 3) := by decide +kernel
theorem dX7_reckonEach_208 : decode cX7_reckonEach 208 = .ok (.iload 6, 2) := by decide +kernel
theorem dX7_reckonEach_210 : decode cX7_reckonEach 210 = .ok (.iload 4, 2) := by decide +kernel
theorem dX7_reckonEach_212 : decode cX7_reckonEach 212 = .ok (.isub, 1) := by decide +kernel
theorem dX7_reckonEach_213 : decode cX7_reckonEach 213 = .ok (.iload 5, 2) := by decide +kernel
theorem dX7_reckonEach_215 : decode cX7_reckonEach 215 = .ok (.if_icmp .ge 7, 3) := by decide +kernel
theorem dX7_reckonEach_218 : decode cX7_reckonEach 218 = .ok (.iconst 1, 1) := by decide +kernel
theorem dX7_reckonEach_219 : decode cX7_reckonEach 219 = .ok (.goto 4, 3) := by decide +kernel
theorem dX7_reckonEach_222 : decode cX7_reckonEach 222 = .ok (.iconst 0, 1) := by decide +kernel
theorem dX7_reckonEach_223 : decode cX7_reckonEach 223 = .ok (.istore 7, 2) := by decide +kernel
theorem dX7_reckonEach_225 : decode cX7_reckonEach 225 = .ok (.iload 7, 2) := by decide +kernel
theorem dX7_reckonEach_227 : decode cX7_reckonEach 227 = .ok (.ifCond .eq 8, 3) := by decide +kernel
theorem dX7_reckonEach_230 : decode cX7_reckonEach 230 = .ok (.aload_n 0, 1) := by decide +kernel
theorem dX7_reckonEach_231 : decode cX7_reckonEach 231 = .ok (.iload_n 1, 1) := by decide +kernel
theorem dX7_reckonEach_232 : decode cX7_reckonEach 232 = .ok (.invokevirtual 112, 3) := by decide +kernel
theorem dX7_reckonEach_235 : decode cX7_reckonEach 235 = .ok (.iinc 6 1, 3) := by decide +kernel
theorem dX7_reckonEach_238 : decode cX7_reckonEach 238 = .ok (.goto (-235), 3) := by decide +kernel
theorem dX7_reckonEach_241 : decode cX7_reckonEach 241 = .ok (.return_, 1) := by decide +kernel
theorem dX7_reckonOrder_0 : decode cX7_reckonOrder 0 = .ok (.iconst 0, 1) := by decide +kernel
theorem dX7_reckonOrder_1 : decode cX7_reckonOrder 1 = .ok (.istore 5, 2) := by decide +kernel
theorem dX7_reckonOrder_3 : decode cX7_reckonOrder 3 = .ok (.iload 5, 2) := by decide +kernel
theorem dX7_reckonOrder_5 : decode cX7_reckonOrder 5 = .ok (.aload_n 0, 1) := by decide +kernel
theorem dX7_reckonOrder_6 : decode cX7_reckonOrder 6 = .ok (.getfield 26, 3) := by decide +kernel
theorem dX7_reckonOrder_9 : decode cX7_reckonOrder 9 = .ok (.iload_n 2, 1) := by decide +kernel
theorem dX7_reckonOrder_10 : decode cX7_reckonOrder 10 = .ok (.iaload, 1) := by decide +kernel
theorem dX7_reckonOrder_11 : decode cX7_reckonOrder 11 = .ok (.if_icmp .ge 36, 3) := by decide +kernel
theorem dX7_reckonOrder_14 : decode cX7_reckonOrder 14 = .ok (.aload_n 0, 1) := by decide +kernel
theorem dX7_reckonOrder_15 : decode cX7_reckonOrder 15 = .ok (.iload_n 2, 1) := by decide +kernel
theorem dX7_reckonOrder_16 : decode cX7_reckonOrder 16 = .ok (.iload 5, 2) := by decide +kernel
theorem dX7_reckonOrder_18 : decode cX7_reckonOrder 18 = .ok (.invokevirtual 101, 3) := by decide +kernel
theorem dX7_reckonOrder_21 : decode cX7_reckonOrder 21 = .ok (.aload_n 0, 1) := by decide +kernel
theorem dX7_reckonOrder_22 : decode cX7_reckonOrder 22 = .ok (.getfield 35, 3) := by decide +kernel
theorem dX7_reckonOrder_25 : decode cX7_reckonOrder 25 = .ok (.iload 5, 2) := by decide +kernel
theorem dX7_reckonOrder_27 : decode cX7_reckonOrder 27 = .ok (.aload_n 0, 1) := by decide +kernel
theorem dX7_reckonOrder_28 : decode cX7_reckonOrder 28 = .ok (.iload_n 3, 1) := by decide +kernel
theorem dX7_reckonOrder_29 : decode cX7_reckonOrder 29 = .ok (.invokevirtual 81, 3) := by decide +kernel
theorem dX7_reckonOrder_32 : decode cX7_reckonOrder 32 = .ok (.iastore, 1) := by decide +kernel
theorem dX7_reckonOrder_33 : decode cX7_reckonOrder 33 = .ok (.aload_n 0, 1) := by decide +kernel
theorem dX7_reckonOrder_34 : decode cX7_reckonOrder 34 = .ok (.getfield 38, 3) := by decide +kernel
theorem dX7_reckonOrder_37 : decode cX7_reckonOrder 37 = .ok (.iload 5, 2) := by decide +kernel
theorem dX7_reckonOrder_39 : decode cX7_reckonOrder 39 = .ok (.iconst 0, 1) := by decide +kernel
theorem dX7_reckonOrder_40 : decode cX7_reckonOrder 40 = .ok (.iastore, 1) := by decide +kernel
theorem dX7_reckonOrder_41 : decode cX7_reckonOrder 41 = .ok (.iinc 5 1, 3) := by decide +kernel
theorem dX7_reckonOrder_44 : decode cX7_reckonOrder 44 = .ok (.goto (-41), 3) := by decide +kernel
theorem dX7_reckonOrder_47 : decode cX7_reckonOrder 47 = .ok (.iconst 0, 1) := by decide +kernel
theorem dX7_reckonOrder_48 : decode cX7_reckonOrder 48 = .ok (.istore 5, 2) := by decide +kernel
theorem dX7_reckonOrder_50 : decode cX7_reckonOrder 50 = .ok (.iload 5, 2) := by decide +kernel
theorem dX7_reckonOrder_52 : decode cX7_reckonOrder 52 = .ok (.aload_n 0, 1) := by decide +kernel
theorem dX7_reckonOrder_53 : decode cX7_reckonOrder 53 = .ok (.getfield 26, 3) := by decide +kernel
theorem dX7_reckonOrder_56 : decode cX7_reckonOrder 56 = .ok (.iload_n 2, 1) := by decide +kernel
theorem dX7_reckonOrder_57 : decode cX7_reckonOrder 57 = .ok (.iaload, 1) := by decide +kernel
theorem dX7_reckonOrder_58 : decode cX7_reckonOrder 58 = .ok (.if_icmp .ge 130, 3) := by decide +kernel
theorem dX7_reckonOrder_61 : decode cX7_reckonOrder 61 = .ok (.iconst (-1), 1) := by decide +kernel
theorem dX7_reckonOrder_62 : decode cX7_reckonOrder 62 = .ok (.istore 6, 2) := by decide +kernel
theorem dX7_reckonOrder_64 : decode cX7_reckonOrder 64 = .ok (.iconst 0, 1) := by decide +kernel
theorem dX7_reckonOrder_65 : decode cX7_reckonOrder 65 = .ok (.istore 7, 2) := by decide +kernel
theorem dX7_reckonOrder_67 : decode cX7_reckonOrder 67 = .ok (.iload 7, 2) := by decide +kernel
theorem dX7_reckonOrder_69 : decode cX7_reckonOrder 69 = .ok (.aload_n 0, 1) := by decide +kernel
theorem dX7_reckonOrder_70 : decode cX7_reckonOrder 70 = .ok (.getfield 26, 3) := by decide +kernel
theorem dX7_reckonOrder_73 : decode cX7_reckonOrder 73 = .ok (.iload_n 2, 1) := by decide +kernel
theorem dX7_reckonOrder_74 : decode cX7_reckonOrder 74 = .ok (.iaload, 1) := by decide +kernel
theorem dX7_reckonOrder_75 : decode cX7_reckonOrder 75 = .ok (.if_icmp .ge 87, 3) := by decide +kernel
theorem dX7_reckonOrder_78 : decode cX7_reckonOrder 78 = .ok (.iload 6, 2) := by decide +kernel
theorem dX7_reckonOrder_80 : decode cX7_reckonOrder 80 = .ok (.ifCond .lt 45, 3) := by decide +kernel
theorem dX7_reckonOrder_83 : decode cX7_reckonOrder 83 = .ok (.iload 4, 2) := by decide +kernel
theorem dX7_reckonOrder_85 : decode cX7_reckonOrder 85 = .ok (.ifCond .eq 23, 3) := by decide +kernel
theorem dX7_reckonOrder_88 : decode cX7_reckonOrder 88 = .ok (.aload_n 0, 1) := by decide +kernel
theorem dX7_reckonOrder_89 : decode cX7_reckonOrder 89 = .ok (.getfield 35, 3) := by decide +kernel
theorem dX7_reckonOrder_92 : decode cX7_reckonOrder 92 = .ok (.iload 7, 2) := by decide +kernel
theorem dX7_reckonOrder_94 : decode cX7_reckonOrder 94 = .ok (.iaload, 1) := by decide +kernel
theorem dX7_reckonOrder_95 : decode cX7_reckonOrder 95 = .ok (.aload_n 0, 1) := by decide +kernel
theorem dX7_reckonOrder_96 : decode cX7_reckonOrder 96 = .ok (.getfield 35, 3) := by decide +kernel
theorem dX7_reckonOrder_99 : decode cX7_reckonOrder 99 = .ok (.iload 6, 2) := by decide +kernel
theorem dX7_reckonOrder_101 : decode cX7_reckonOrder 101 = .ok (.iaload, 1) := by decide +kernel
theorem dX7_reckonOrder_102 : decode cX7_reckonOrder 102 = .ok (.if_icmp .le 27, 3) := by decide +kernel
theorem dX7_reckonOrder_105 : decode cX7_reckonOrder 105 = .ok (.goto 20, 3) := by decide +kernel
theorem dX7_reckonOrder_108 : decode cX7_reckonOrder 108 = .ok (.aload_n 0, 1) := by decide +kernel
theorem dX7_reckonOrder_109 : decode cX7_reckonOrder 109 = .ok (.getfield 35, 3) := by decide +kernel
theorem dX7_reckonOrder_112 : decode cX7_reckonOrder 112 = .ok (.iload 7, 2) := by decide +kernel
theorem dX7_reckonOrder_114 : decode cX7_reckonOrder 114 = .ok (.iaload, 1) := by decide +kernel
theorem dX7_reckonOrder_115 : decode cX7_reckonOrder 115 = .ok (.aload_n 0, 1) := by decide +kernel
theorem dX7_reckonOrder_116 : decode cX7_reckonOrder 116 = .ok (.getfield 35, 3) := by decide +kernel
theorem dX7_reckonOrder_119 : decode cX7_reckonOrder 119 = .ok (.iload 6, 2) := by decide +kernel
theorem dX7_reckonOrder_121 : decode cX7_reckonOrder 121 = .ok (.iaload, 1) := by decide +kernel
theorem dX7_reckonOrder_122 : decode cX7_reckonOrder 122 = .ok (.if_icmp .ge 7, 3) := by decide +kernel
theorem dX7_reckonOrder_125 : decode cX7_reckonOrder 125 = .ok (.iconst 1, 1) := by decide +kernel
theorem dX7_reckonOrder_126 : decode cX7_reckonOrder 126 = .ok (.goto 4, 3) := by decide +kernel
theorem dX7_reckonOrder_129 : decode cX7_reckonOrder 129 = .ok (.iconst 0, 1) := by decide +kernel
theorem dX7_reckonOrder_130 : decode cX7_reckonOrder 130 = .ok (.istore 8, 2) := by decide +kernel
theorem dX7_reckonOrder_132 : decode cX7_reckonOrder 132 = .ok (.aload_n 0, 1) := by decide +kernel
theorem dX7_reckonOrder_133 : decode cX7_reckonOrder 133 = .ok (.getfield 38, 3) := by decide +kernel
theorem dX7_reckonOrder_136 : decode cX7_reckonOrder 136 = .ok (.iload 7, 2) := by decide +kernel
theorem dX7_reckonOrder_138 : decode cX7_reckonOrder 138 = .ok (.iaload, 1) := by decide +kernel
theorem dX7_reckonOrder_139 : decode cX7_reckonOrder 139 = .ok (.ifCond .ne 13, 3) := by decide +kernel
theorem dX7_reckonOrder_142 : decode cX7_reckonOrder 142 = .ok (.iload 8, 2) := by decide +kernel
theorem dX7_reckonOrder_144 : decode cX7_reckonOrder 144 = .ok (.ifCond .eq 8, 3) := by decide +kernel
theorem dX7_reckonOrder_147 : decode cX7_reckonOrder 147 = .ok (.iload 7, 2) := by decide +kernel
theorem dX7_reckonOrder_149 : decode cX7_reckonOrder 149 = .ok (.goto 5, 3) := by decide +kernel
theorem dX7_reckonOrder_152 : decode cX7_reckonOrder 152 = .ok (.iload 6, 2) := by decide +kernel
theorem dX7_reckonOrder_154 : decode cX7_reckonOrder 154 = .ok (.istore 6, 2) := by decide +kernel
theorem dX7_reckonOrder_156 : decode cX7_reckonOrder 156 = .ok (.iinc 7 1, 3) := by decide +kernel
theorem dX7_reckonOrder_159 : decode cX7_reckonOrder 159 = .ok (.goto (-92), 3) := by decide +kernel
theorem dX7_reckonOrder_162 : decode cX7_reckonOrder 162 = .ok (.aload_n 0, 1) := by decide +kernel
theorem dX7_reckonOrder_163 : decode cX7_reckonOrder 163 = .ok (.getfield 38, 3) := by decide +kernel
theorem dX7_reckonOrder_166 : decode cX7_reckonOrder 166 = .ok (.iload 6, 2) := by decide +kernel
theorem dX7_reckonOrder_168 : decode cX7_reckonOrder 168 = .ok (.iconst 1, 1) := by decide +kernel
theorem dX7_reckonOrder_169 : decode cX7_reckonOrder 169 = .ok (.iastore, 1) := by decide +kernel
theorem dX7_reckonOrder_170 : decode cX7_reckonOrder 170 = .ok (.aload_n 0, 1) := by decide +kernel
theorem dX7_reckonOrder_171 : decode cX7_reckonOrder 171 = .ok (.iload_n 2, 1) := by decide +kernel
theorem dX7_reckonOrder_172 : decode cX7_reckonOrder 172 = .ok (.iload 6, 2) := by decide +kernel
theorem dX7_reckonOrder_174 : decode cX7_reckonOrder 174 = .ok (.invokevirtual 101, 3) := by decide +kernel
theorem dX7_reckonOrder_177 : decode cX7_reckonOrder 177 = .ok (.aload_n 0, 1) := by decide +kernel
theorem dX7_reckonOrder_178 : decode cX7_reckonOrder 178 = .ok (.iload_n 1, 1) := by decide +kernel
theorem dX7_reckonOrder_179 : decode cX7_reckonOrder 179 = .ok (.invokevirtual 112, 3) := by decide +kernel
theorem dX7_reckonOrder_182 : decode cX7_reckonOrder 182 = .ok (.iinc 5 1, 3) := by decide +kernel
theorem dX7_reckonOrder_185 : decode cX7_reckonOrder 185 = .ok (.goto (-135), 3) := by decide +kernel
theorem dX7_reckonOrder_188 : decode cX7_reckonOrder 188 = .ok (.return_, 1) := by decide +kernel
theorem dX7_folded_0 : decode cX7_folded 0 = .ok (.iconst 0, 1) := by decide +kernel
theorem dX7_folded_1 : decode cX7_folded 1 = .ok (.istore 6, 2) := by decide +kernel
theorem dX7_folded_3 : decode cX7_folded 3 = .ok (.iconst 0, 1) := by decide +kernel
theorem dX7_folded_4 : decode cX7_folded 4 = .ok (.istore 7, 2) := by decide +kernel
theorem dX7_folded_6 : decode cX7_folded 6 = .ok (.lconst 0, 1) := by decide +kernel
theorem dX7_folded_7 : decode cX7_folded 7 = .ok (.lstore 8, 2) := by decide +kernel
theorem dX7_folded_9 : decode cX7_folded 9 = .ok (.ldc 134, 2) := by decide +kernel
theorem dX7_folded_11 : decode cX7_folded 11 = .ok (.istore 10, 2) := by decide +kernel
theorem dX7_folded_13 : decode cX7_folded 13 = .ok (.ldc 135, 2) := by decide +kernel
theorem dX7_folded_15 : decode cX7_folded 15 = .ok (.istore 11, 2) := by decide +kernel
theorem dX7_folded_17 : decode cX7_folded 17 = .ok (.iconst 0, 1) := by decide +kernel
theorem dX7_folded_18 : decode cX7_folded 18 = .ok (.istore 12, 2) := by decide +kernel
theorem dX7_folded_20 : decode cX7_folded 20 = .ok (.iload 12, 2) := by decide +kernel
theorem dX7_folded_22 : decode cX7_folded 22 = .ok (.aload_n 0, 1) := by decide +kernel
theorem dX7_folded_23 : decode cX7_folded 23 = .ok (.getfield 26, 3) := by decide +kernel
theorem dX7_folded_26 : decode cX7_folded 26 = .ok (.iload_n 1, 1) := by decide +kernel
theorem dX7_folded_27 : decode cX7_folded 27 = .ok (.iaload, 1) := by decide +kernel
theorem dX7_folded_28 : decode cX7_folded 28 = .ok (.if_icmp .ge 96, 3) := by decide +kernel
theorem dX7_folded_31 : decode cX7_folded 31 = .ok (.aload_n 0, 1) := by decide +kernel
theorem dX7_folded_32 : decode cX7_folded 32 = .ok (.iload_n 1, 1) := by decide +kernel
theorem dX7_folded_33 : decode cX7_folded 33 = .ok (.iload 12, 2) := by decide +kernel
theorem dX7_folded_35 : decode cX7_folded 35 = .ok (.iload_n 1, 1) := by decide +kernel
theorem dX7_folded_36 : decode cX7_folded 36 = .ok (.iload_n 2, 1) := by decide +kernel
theorem dX7_folded_37 : decode cX7_folded 37 = .ok (.iload_n 3, 1) := by decide +kernel
theorem dX7_folded_38 : decode cX7_folded 38 = .ok (.invokevirtual 130, 3) := by decide +kernel
theorem dX7_folded_41 : decode cX7_folded 41 = .ok (.ifCond .ne 6, 3) := by decide +kernel
theorem dX7_folded_44 : decode cX7_folded 44 = .ok (.goto 74, 3) := by decide +kernel
theorem dX7_folded_47 : decode cX7_folded 47 = .ok (.aload_n 0, 1) := by decide +kernel
theorem dX7_folded_48 : decode cX7_folded 48 = .ok (.iload_n 1, 1) := by decide +kernel
theorem dX7_folded_49 : decode cX7_folded 49 = .ok (.iload 12, 2) := by decide +kernel
theorem dX7_folded_51 : decode cX7_folded 51 = .ok (.invokevirtual 101, 3) := by decide +kernel
theorem dX7_folded_54 : decode cX7_folded 54 = .ok (.aload_n 0, 1) := by decide +kernel
theorem dX7_folded_55 : decode cX7_folded 55 = .ok (.iload 5, 2) := by decide +kernel
theorem dX7_folded_57 : decode cX7_folded 57 = .ok (.invokevirtual 81, 3) := by decide +kernel
theorem dX7_folded_60 : decode cX7_folded 60 = .ok (.istore 13, 2) := by decide +kernel
theorem dX7_folded_62 : decode cX7_folded 62 = .ok (.iload 13, 2) := by decide +kernel
theorem dX7_folded_64 : decode cX7_folded 64 = .ok (.ldc 73, 2) := by decide +kernel
theorem dX7_folded_66 : decode cX7_folded 66 = .ok (.if_icmp .ne 9, 3) := by decide +kernel
theorem dX7_folded_69 : decode cX7_folded 69 = .ok (.iconst 1, 1) := by decide +kernel
theorem dX7_folded_70 : decode cX7_folded 70 = .ok (.istore 7, 2) := by decide +kernel
theorem dX7_folded_72 : decode cX7_folded 72 = .ok (.goto 46, 3) := by decide +kernel
theorem dX7_folded_75 : decode cX7_folded 75 = .ok (.iinc 6 1, 3) := by decide +kernel
theorem dX7_folded_78 : decode cX7_folded 78 = .ok (.lload 8, 2) := by decide +kernel
theorem dX7_folded_80 : decode cX7_folded 80 = .ok (.iload 13, 2) := by decide +kernel
theorem dX7_folded_82 : decode cX7_folded 82 = .ok (.i2l, 1) := by decide +kernel
theorem dX7_folded_83 : decode cX7_folded 83 = .ok (.ladd, 1) := by decide +kernel
theorem dX7_folded_84 : decode cX7_folded 84 = .ok (.lstore 8, 2) := by decide +kernel
theorem dX7_folded_86 : decode cX7_folded 86 = .ok (.iload 13, 2) := by decide +kernel
theorem dX7_folded_88 : decode cX7_folded 88 = .ok (.iload 10, 2) := by decide +kernel
theorem dX7_folded_90 : decode cX7_folded 90 = .ok (.if_icmp .ge 8, 3) := by decide +kernel
theorem dX7_folded_93 : decode cX7_folded 93 = .ok (.iload 13, 2) := by decide +kernel
theorem dX7_folded_95 : decode cX7_folded 95 = .ok (.goto 5, 3) := by decide +kernel
theorem dX7_folded_98 : decode cX7_folded 98 = .ok (.iload 10, 2) := by decide +kernel
theorem dX7_folded_100 : decode cX7_folded 100 = .ok (.istore 10, 2) := by decide +kernel
theorem dX7_folded_102 : decode cX7_folded 102 = .ok (.iload 13, 2) := by decide +kernel
theorem dX7_folded_104 : decode cX7_folded 104 = .ok (.iload 11, 2) := by decide +kernel
theorem dX7_folded_106 : decode cX7_folded 106 = .ok (.if_icmp .le 8, 3) := by decide +kernel
theorem dX7_folded_109 : decode cX7_folded 109 = .ok (.iload 13, 2) := by decide +kernel
theorem dX7_folded_111 : decode cX7_folded 111 = .ok (.goto 5, 3) := by decide +kernel
theorem dX7_folded_114 : decode cX7_folded 114 = .ok (.iload 11, 2) := by decide +kernel
theorem dX7_folded_116 : decode cX7_folded 116 = .ok (.istore 11, 2) := by decide +kernel
theorem dX7_folded_118 : decode cX7_folded 118 = .ok (.iinc 12 1, 3) := by decide +kernel
theorem dX7_folded_121 : decode cX7_folded 121 = .ok (.goto (-101), 3) := by decide +kernel
theorem dX7_folded_124 : decode cX7_folded 124 = .ok (.iload 4, 2) := by decide +kernel
theorem dX7_folded_126 : decode cX7_folded 126 = .ok (.ifCond .ne 6, 3) := by decide +kernel
theorem dX7_folded_129 : decode cX7_folded 129 = .ok (.iload 6, 2) := by decide +kernel
theorem dX7_folded_131 : decode cX7_folded 131 = .ok (.ireturn, 1) := by decide +kernel
theorem dX7_folded_132 : decode cX7_folded 132 = .ok (.iload 7, 2) := by decide +kernel
theorem dX7_folded_134 : decode cX7_folded 134 = .ok (.ifCond .ne 14, 3) := by decide +kernel
theorem dX7_folded_137 : decode cX7_folded 137 = .ok (.iload 4, 2) := by decide +kernel
theorem dX7_folded_139 : decode cX7_folded 139 = .ok (.iconst 1, 1) := by decide +kernel
theorem dX7_folded_140 : decode cX7_folded 140 = .ok (.if_icmp .le 11, 3) := by decide +kernel
theorem dX7_folded_143 : decode cX7_folded 143 = .ok (.iload 6, 2) := by decide +kernel
theorem dX7_folded_145 : decode cX7_folded 145 = .ok (.ifCond .ne 6, 3) := by decide +kernel
theorem dX7_folded_148 : decode cX7_folded 148 = .ok (.ldc 73, 2) := by decide +kernel
theorem dX7_folded_150 : decode cX7_folded 150 = .ok (.ireturn, 1) := by decide +kernel
theorem dX7_folded_151 : decode cX7_folded 151 = .ok (.iload 4, 2) := by decide +kernel
theorem dX7_folded_153 : decode cX7_folded 153 = .ok (.iconst 1, 1) := by decide +kernel
theorem dX7_folded_154 : decode cX7_folded 154 = .ok (.if_icmp .ne 11, 3) := by decide +kernel
theorem dX7_folded_157 : decode cX7_folded 157 = .ok (.lload 8, 2) := by decide +kernel
theorem dX7_folded_159 : decode cX7_folded 159 = .ok (.invokestatic 74, 3) := by decide +kernel
theorem dX7_folded_162 : decode cX7_folded 162 = .ok (.goto 16, 3) := by decide +kernel
theorem dX7_folded_165 : decode cX7_folded 165 = .ok (.iload 4, 2) := by decide +kernel
theorem dX7_folded_167 : decode cX7_folded 167 = .ok (.iconst 2, 1) := by decide +kernel
theorem dX7_folded_168 : decode cX7_folded 168 = .ok (.if_icmp .ne 8, 3) := by decide +kernel
theorem dX7_folded_171 : decode cX7_folded 171 = .ok (.iload 10, 2) := by decide +kernel
theorem dX7_folded_173 : decode cX7_folded 173 = .ok (.goto 5, 3) := by decide +kernel
theorem dX7_folded_176 : decode cX7_folded 176 = .ok (.iload 11, 2) := by decide +kernel
theorem dX7_folded_178 : decode cX7_folded 178 = .ok (.ireturn, 1) := by decide +kernel
theorem dX7_reckonGroup_0 : decode cX7_reckonGroup 0 = .ok (.aload_n 0, 1) := by decide +kernel
theorem dX7_reckonGroup_1 : decode cX7_reckonGroup 1 = .ok (.getfield 19, 3) := by decide +kernel
theorem dX7_reckonGroup_4 : decode cX7_reckonGroup 4 = .ok (.iload_n 3, 1) := by decide +kernel
theorem dX7_reckonGroup_5 : decode cX7_reckonGroup 5 = .ok (.iconst 2, 1) := by decide +kernel
theorem dX7_reckonGroup_6 : decode cX7_reckonGroup 6 = .ok (.iadd, 1) := by decide +kernel
theorem dX7_reckonGroup_7 : decode cX7_reckonGroup 7 = .ok (.iaload, 1) := by decide +kernel
theorem dX7_reckonGroup_8 : decode cX7_reckonGroup 8 = .ok (.istore 4, 2) := by decide +kernel
theorem dX7_reckonGroup_10 : decode cX7_reckonGroup 10 = .ok (.iconst 0, 1) := by decide +kernel
theorem dX7_reckonGroup_11 : decode cX7_reckonGroup 11 = .ok (.istore 5, 2) := by decide +kernel
theorem dX7_reckonGroup_13 : decode cX7_reckonGroup 13 = .ok (.iload 5, 2) := by decide +kernel
theorem dX7_reckonGroup_15 : decode cX7_reckonGroup 15 = .ok (.aload_n 0, 1) := by decide +kernel
theorem dX7_reckonGroup_16 : decode cX7_reckonGroup 16 = .ok (.getfield 26, 3) := by decide +kernel
theorem dX7_reckonGroup_19 : decode cX7_reckonGroup 19 = .ok (.iload_n 2, 1) := by decide +kernel
theorem dX7_reckonGroup_20 : decode cX7_reckonGroup 20 = .ok (.iaload, 1) := by decide +kernel
theorem dX7_reckonGroup_21 : decode cX7_reckonGroup 21 = .ok (.if_icmp .lt 13, 3) := by decide +kernel
theorem dX7_reckonGroup_24 : decode cX7_reckonGroup 24 = .ok (.iload 5, 2) := by decide +kernel
theorem dX7_reckonGroup_26 : decode cX7_reckonGroup 26 = .ok (.ifCond .ne 164, 3) := by decide +kernel
theorem dX7_reckonGroup_29 : decode cX7_reckonGroup 29 = .ok (.iload 4, 2) := by decide +kernel
theorem dX7_reckonGroup_31 : decode cX7_reckonGroup 31 = .ok (.ifCond .ne 159, 3) := by decide +kernel
theorem dX7_reckonGroup_34 : decode cX7_reckonGroup 34 = .ok (.iconst 1, 1) := by decide +kernel
theorem dX7_reckonGroup_35 : decode cX7_reckonGroup 35 = .ok (.istore 6, 2) := by decide +kernel
theorem dX7_reckonGroup_37 : decode cX7_reckonGroup 37 = .ok (.iconst 0, 1) := by decide +kernel
theorem dX7_reckonGroup_38 : decode cX7_reckonGroup 38 = .ok (.istore 7, 2) := by decide +kernel
theorem dX7_reckonGroup_40 : decode cX7_reckonGroup 40 = .ok (.iload 7, 2) := by decide +kernel
theorem dX7_reckonGroup_42 : decode cX7_reckonGroup 42 = .ok (.iload 5, 2) := by decide +kernel
theorem dX7_reckonGroup_44 : decode cX7_reckonGroup 44 = .ok (.if_icmp .ge 36, 3) := by decide +kernel
theorem dX7_reckonGroup_47 : decode cX7_reckonGroup 47 = .ok (.iload 6, 2) := by decide +kernel
theorem dX7_reckonGroup_49 : decode cX7_reckonGroup 49 = .ok (.ifCond .eq 31, 3) := by decide +kernel
theorem dX7_reckonGroup_52 : decode cX7_reckonGroup 52 = .ok (.aload_n 0, 1) := by decide +kernel
theorem dX7_reckonGroup_53 : decode cX7_reckonGroup 53 = .ok (.iload_n 2, 1) := by decide +kernel
theorem dX7_reckonGroup_54 : decode cX7_reckonGroup 54 = .ok (.iload 5, 2) := by decide +kernel
theorem dX7_reckonGroup_56 : decode cX7_reckonGroup 56 = .ok (.iload_n 2, 1) := by decide +kernel
theorem dX7_reckonGroup_57 : decode cX7_reckonGroup 57 = .ok (.iload 7, 2) := by decide +kernel
theorem dX7_reckonGroup_59 : decode cX7_reckonGroup 59 = .ok (.iload 4, 2) := by decide +kernel
theorem dX7_reckonGroup_61 : decode cX7_reckonGroup 61 = .ok (.invokevirtual 130, 3) := by decide +kernel
theorem dX7_reckonGroup_64 : decode cX7_reckonGroup 64 = .ok (.ifCond .ne 7, 3) := by decide +kernel
theorem dX7_reckonGroup_67 : decode cX7_reckonGroup 67 = .ok (.iconst 1, 1) := by decide +kernel
theorem dX7_reckonGroup_68 : decode cX7_reckonGroup 68 = .ok (.goto 4, 3) := by decide +kernel
theorem dX7_reckonGroup_71 : decode cX7_reckonGroup 71 = .ok (.iconst 0, 1) := by decide +kernel
theorem dX7_reckonGroup_72 : decode cX7_reckonGroup 72 = .ok (.istore 6, 2) := by decide +kernel
theorem dX7_reckonGroup_74 : decode cX7_reckonGroup 74 = .ok (.iinc 7 1, 3) := by decide +kernel
theorem dX7_reckonGroup_77 : decode cX7_reckonGroup 77 = .ok (.goto (-37), 3) := by decide +kernel
theorem dX7_reckonGroup_80 : decode cX7_reckonGroup 80 = .ok (.iload 6, 2) := by decide +kernel
theorem dX7_reckonGroup_82 : decode cX7_reckonGroup 82 = .ok (.ifCond .eq 102, 3) := by decide +kernel
theorem dX7_reckonGroup_85 : decode cX7_reckonGroup 85 = .ok (.aload_n 0, 1) := by decide +kernel
theorem dX7_reckonGroup_86 : decode cX7_reckonGroup 86 = .ok (.iload_n 2, 1) := by decide +kernel
theorem dX7_reckonGroup_87 : decode cX7_reckonGroup 87 = .ok (.iload 5, 2) := by decide +kernel
theorem dX7_reckonGroup_89 : decode cX7_reckonGroup 89 = .ok (.iload 4, 2) := by decide +kernel
theorem dX7_reckonGroup_91 : decode cX7_reckonGroup 91 = .ok (.aload_n 0, 1) := by decide +kernel
theorem dX7_reckonGroup_92 : decode cX7_reckonGroup 92 = .ok (.getfield 19, 3) := by decide +kernel
theorem dX7_reckonGroup_95 : decode cX7_reckonGroup 95 = .ok (.iload_n 3, 1) := by decide +kernel
theorem dX7_reckonGroup_96 : decode cX7_reckonGroup 96 = .ok (.iconst 3, 1) := by decide +kernel
theorem dX7_reckonGroup_97 : decode cX7_reckonGroup 97 = .ok (.iadd, 1) := by decide +kernel
theorem dX7_reckonGroup_98 : decode cX7_reckonGroup 98 = .ok (.iaload, 1) := by decide +kernel
theorem dX7_reckonGroup_99 : decode cX7_reckonGroup 99 = .ok (.aload_n 0, 1) := by decide +kernel
theorem dX7_reckonGroup_100 : decode cX7_reckonGroup 100 = .ok (.getfield 19, 3) := by decide +kernel
theorem dX7_reckonGroup_103 : decode cX7_reckonGroup 103 = .ok (.iload_n 3, 1) := by decide +kernel
theorem dX7_reckonGroup_104 : decode cX7_reckonGroup 104 = .ok (.iconst 4, 1) := by decide +kernel
theorem dX7_reckonGroup_105 : decode cX7_reckonGroup 105 = .ok (.iadd, 1) := by decide +kernel
theorem dX7_reckonGroup_106 : decode cX7_reckonGroup 106 = .ok (.iaload, 1) := by decide +kernel
theorem dX7_reckonGroup_107 : decode cX7_reckonGroup 107 = .ok (.invokevirtual 136, 3) := by decide +kernel
theorem dX7_reckonGroup_110 : decode cX7_reckonGroup 110 = .ok (.istore 7, 2) := by decide +kernel
theorem dX7_reckonGroup_112 : decode cX7_reckonGroup 112 = .ok (.aload_n 0, 1) := by decide +kernel
theorem dX7_reckonGroup_113 : decode cX7_reckonGroup 113 = .ok (.invokevirtual 105, 3) := by decide +kernel
theorem dX7_reckonGroup_116 : decode cX7_reckonGroup 116 = .ok (.iconst 0, 1) := by decide +kernel
theorem dX7_reckonGroup_117 : decode cX7_reckonGroup 117 = .ok (.istore 8, 2) := by decide +kernel
theorem dX7_reckonGroup_119 : decode cX7_reckonGroup 119 = .ok (.iload 8, 2) := by decide +kernel
theorem dX7_reckonGroup_121 : decode cX7_reckonGroup 121 = .ok (.bipush 6, 2) := by decide +kernel
theorem dX7_reckonGroup_123 : decode cX7_reckonGroup 123 = .ok (.if_icmp .ge 41, 3) := by decide +kernel
theorem dX7_reckonGroup_126 : decode cX7_reckonGroup 126 = .ok (.aload_n 0, 1) := by decide +kernel
theorem dX7_reckonGroup_127 : decode cX7_reckonGroup 127 = .ok (.getfield 29, 3) := by decide +kernel
theorem dX7_reckonGroup_130 : decode cX7_reckonGroup 130 = .ok (.iload 8, 2) := by decide +kernel
theorem dX7_reckonGroup_132 : decode cX7_reckonGroup 132 = .ok (.iload 4, 2) := by decide +kernel
theorem dX7_reckonGroup_134 : decode cX7_reckonGroup 134 = .ok (.iload 8, 2) := by decide +kernel
theorem dX7_reckonGroup_136 : decode cX7_reckonGroup 136 = .ok (.ishr, 1) := by decide +kernel
theorem dX7_reckonGroup_137 : decode cX7_reckonGroup 137 = .ok (.iconst 1, 1) := by decide +kernel
theorem dX7_reckonGroup_138 : decode cX7_reckonGroup 138 = .ok (.iand, 1) := by decide +kernel
theorem dX7_reckonGroup_139 : decode cX7_reckonGroup 139 = .ok (.iconst 1, 1) := by decide +kernel
theorem dX7_reckonGroup_140 : decode cX7_reckonGroup 140 = .ok (.if_icmp .ne 15, 3) := by decide +kernel
theorem dX7_reckonGroup_143 : decode cX7_reckonGroup 143 = .ok (.aload_n 0, 1) := by decide +kernel
theorem dX7_reckonGroup_144 : decode cX7_reckonGroup 144 = .ok (.iload_n 2, 1) := by decide +kernel
theorem dX7_reckonGroup_145 : decode cX7_reckonGroup 145 = .ok (.iload 5, 2) := by decide +kernel
theorem dX7_reckonGroup_147 : decode cX7_reckonGroup 147 = .ok (.iload 8, 2) := by decide +kernel
theorem dX7_reckonGroup_149 : decode cX7_reckonGroup 149 = .ok (.invokevirtual 98, 3) := by decide +kernel
theorem dX7_reckonGroup_152 : decode cX7_reckonGroup 152 = .ok (.goto 5, 3) := by decide +kernel
theorem dX7_reckonGroup_155 : decode cX7_reckonGroup 155 = .ok (.ldc 73, 2) := by decide +kernel
theorem dX7_reckonGroup_157 : decode cX7_reckonGroup 157 = .ok (.iastore, 1) := by decide +kernel
theorem dX7_reckonGroup_158 : decode cX7_reckonGroup 158 = .ok (.iinc 8 1, 3) := by decide +kernel
theorem dX7_reckonGroup_161 : decode cX7_reckonGroup 161 = .ok (.goto (-42), 3) := by decide +kernel
theorem dX7_reckonGroup_164 : decode cX7_reckonGroup 164 = .ok (.aload_n 0, 1) := by decide +kernel
theorem dX7_reckonGroup_165 : decode cX7_reckonGroup 165 = .ok (.getfield 29, 3) := by decide +kernel
theorem dX7_reckonGroup_168 : decode cX7_reckonGroup 168 = .ok (.aload_n 0, 1) := by decide +kernel
theorem dX7_reckonGroup_169 : decode cX7_reckonGroup 169 = .ok (.getfield 19, 3) := by decide +kernel
theorem dX7_reckonGroup_172 : decode cX7_reckonGroup 172 = .ok (.iload_n 3, 1) := by decide +kernel
theorem dX7_reckonGroup_173 : decode cX7_reckonGroup 173 = .ok (.iconst 5, 1) := by decide +kernel
theorem dX7_reckonGroup_174 : decode cX7_reckonGroup 174 = .ok (.iadd, 1) := by decide +kernel
theorem dX7_reckonGroup_175 : decode cX7_reckonGroup 175 = .ok (.iaload, 1) := by decide +kernel
theorem dX7_reckonGroup_176 : decode cX7_reckonGroup 176 = .ok (.iload 7, 2) := by decide +kernel
theorem dX7_reckonGroup_178 : decode cX7_reckonGroup 178 = .ok (.iastore, 1) := by decide +kernel
theorem dX7_reckonGroup_179 : decode cX7_reckonGroup 179 = .ok (.aload_n 0, 1) := by decide +kernel
theorem dX7_reckonGroup_180 : decode cX7_reckonGroup 180 = .ok (.iload_n 1, 1) := by decide +kernel
theorem dX7_reckonGroup_181 : decode cX7_reckonGroup 181 = .ok (.invokevirtual 112, 3) := by decide +kernel
theorem dX7_reckonGroup_184 : decode cX7_reckonGroup 184 = .ok (.iinc 5 1, 3) := by decide +kernel
theorem dX7_reckonGroup_187 : decode cX7_reckonGroup 187 = .ok (.goto (-174), 3) := by decide +kernel
theorem dX7_reckonGroup_190 : decode cX7_reckonGroup 190 = .ok (.return_, 1) := by decide +kernel
theorem dX7_reckonGraphs_0 : decode cX7_reckonGraphs 0 = .ok (.iconst 1, 1) := by decide +kernel
theorem dX7_reckonGraphs_1 : decode cX7_reckonGraphs 1 = .ok (.istore 4, 2) := by decide +kernel
theorem dX7_reckonGraphs_3 : decode cX7_reckonGraphs 3 = .ok (.iload 4, 2) := by decide +kernel
theorem dX7_reckonGraphs_5 : decode cX7_reckonGraphs 5 = .ok (.iconst 4, 1) := by decide +kernel
theorem dX7_reckonGraphs_6 : decode cX7_reckonGraphs 6 = .ok (.if_icmp .ge 81, 3) := by decide +kernel
theorem dX7_reckonGraphs_9 : decode cX7_reckonGraphs 9 = .ok (.iload_n 2, 1) := by decide +kernel
theorem dX7_reckonGraphs_10 : decode cX7_reckonGraphs 10 = .ok (.iload 4, 2) := by decide +kernel
theorem dX7_reckonGraphs_12 : decode cX7_reckonGraphs 12 = .ok (.invokestatic 140, 3) := by decide +kernel
theorem dX7_reckonGraphs_15 : decode cX7_reckonGraphs 15 = .ok (.istore 5, 2) := by decide +kernel
theorem dX7_reckonGraphs_17 : decode cX7_reckonGraphs 17 = .ok (.iconst 0, 1) := by decide +kernel
theorem dX7_reckonGraphs_18 : decode cX7_reckonGraphs 18 = .ok (.istore 6, 2) := by decide +kernel
theorem dX7_reckonGraphs_20 : decode cX7_reckonGraphs 20 = .ok (.iload 6, 2) := by decide +kernel
theorem dX7_reckonGraphs_22 : decode cX7_reckonGraphs 22 = .ok (.aload_n 0, 1) := by decide +kernel
theorem dX7_reckonGraphs_23 : decode cX7_reckonGraphs 23 = .ok (.getfield 26, 3) := by decide +kernel
theorem dX7_reckonGraphs_26 : decode cX7_reckonGraphs 26 = .ok (.iload 5, 2) := by decide +kernel
theorem dX7_reckonGraphs_28 : decode cX7_reckonGraphs 28 = .ok (.iaload, 1) := by decide +kernel
theorem dX7_reckonGraphs_29 : decode cX7_reckonGraphs 29 = .ok (.if_icmp .ge 52, 3) := by decide +kernel
theorem dX7_reckonGraphs_32 : decode cX7_reckonGraphs 32 = .ok (.aload_n 0, 1) := by decide +kernel
theorem dX7_reckonGraphs_33 : decode cX7_reckonGraphs 33 = .ok (.iload 5, 2) := by decide +kernel
theorem dX7_reckonGraphs_35 : decode cX7_reckonGraphs 35 = .ok (.iload 6, 2) := by decide +kernel
theorem dX7_reckonGraphs_37 : decode cX7_reckonGraphs 37 = .ok (.invokevirtual 101, 3) := by decide +kernel
theorem dX7_reckonGraphs_40 : decode cX7_reckonGraphs 40 = .ok (.aload_n 0, 1) := by decide +kernel
theorem dX7_reckonGraphs_41 : decode cX7_reckonGraphs 41 = .ok (.getfield 29, 3) := by decide +kernel
theorem dX7_reckonGraphs_44 : decode cX7_reckonGraphs 44 = .ok (.iload_n 3, 1) := by decide +kernel
theorem dX7_reckonGraphs_45 : decode cX7_reckonGraphs 45 = .ok (.iaload, 1) := by decide +kernel
theorem dX7_reckonGraphs_46 : decode cX7_reckonGraphs 46 = .ok (.ldc 73, 2) := by decide +kernel
theorem dX7_reckonGraphs_48 : decode cX7_reckonGraphs 48 = .ok (.if_icmp .eq 14, 3) := by decide +kernel
theorem dX7_reckonGraphs_51 : decode cX7_reckonGraphs 51 = .ok (.aload_n 0, 1) := by decide +kernel
theorem dX7_reckonGraphs_52 : decode cX7_reckonGraphs 52 = .ok (.getfield 29, 3) := by decide +kernel
theorem dX7_reckonGraphs_55 : decode cX7_reckonGraphs 55 = .ok (.iload_n 3, 1) := by decide +kernel
theorem dX7_reckonGraphs_56 : decode cX7_reckonGraphs 56 = .ok (.iaload, 1) := by decide +kernel
theorem dX7_reckonGraphs_57 : decode cX7_reckonGraphs 57 = .ok (.iload 4, 2) := by decide +kernel
theorem dX7_reckonGraphs_59 : decode cX7_reckonGraphs 59 = .ok (.if_icmp .ne 16, 3) := by decide +kernel
theorem dX7_reckonGraphs_62 : decode cX7_reckonGraphs 62 = .ok (.aload_n 0, 1) := by decide +kernel
theorem dX7_reckonGraphs_63 : decode cX7_reckonGraphs 63 = .ok (.getfield 29, 3) := by decide +kernel
theorem dX7_reckonGraphs_66 : decode cX7_reckonGraphs 66 = .ok (.iload_n 3, 1) := by decide +kernel
theorem dX7_reckonGraphs_67 : decode cX7_reckonGraphs 67 = .ok (.iload 4, 2) := by decide +kernel
theorem dX7_reckonGraphs_69 : decode cX7_reckonGraphs 69 = .ok (.iastore, 1) := by decide +kernel
theorem dX7_reckonGraphs_70 : decode cX7_reckonGraphs 70 = .ok (.aload_n 0, 1) := by decide +kernel
theorem dX7_reckonGraphs_71 : decode cX7_reckonGraphs 71 = .ok (.iload_n 1, 1) := by decide +kernel
theorem dX7_reckonGraphs_72 : decode cX7_reckonGraphs 72 = .ok (.invokevirtual 112, 3) := by decide +kernel
theorem dX7_reckonGraphs_75 : decode cX7_reckonGraphs 75 = .ok (.iinc 6 1, 3) := by decide +kernel
theorem dX7_reckonGraphs_78 : decode cX7_reckonGraphs 78 = .ok (.goto (-58), 3) := by decide +kernel
theorem dX7_reckonGraphs_81 : decode cX7_reckonGraphs 81 = .ok (.iinc 4 1, 3) := by decide +kernel
theorem dX7_reckonGraphs_84 : decode cX7_reckonGraphs 84 = .ok (.goto (-81), 3) := by decide +kernel
theorem dX7_reckonGraphs_87 : decode cX7_reckonGraphs 87 = .ok (.return_, 1) := by decide +kernel
theorem dX7_isLong_0 : decode cX7_isLong 0 = .ok (.aload_n 0, 1) := by decide +kernel
theorem dX7_isLong_1 : decode cX7_isLong 1 = .ok (.getfield 26, 3) := by decide +kernel
theorem dX7_isLong_4 : decode cX7_isLong 4 = .ok (.iload_n 1, 1) := by decide +kernel
theorem dX7_isLong_5 : decode cX7_isLong 5 = .ok (.iload_n 2, 1) := by decide +kernel
theorem dX7_isLong_6 : decode cX7_isLong 6 = .ok (.invokestatic 140, 3) := by decide +kernel
theorem dX7_isLong_9 : decode cX7_isLong 9 = .ok (.iaload, 1) := by decide +kernel
theorem dX7_isLong_10 : decode cX7_isLong 10 = .ok (.bipush (-2), 2) := by decide +kernel
theorem dX7_isLong_12 : decode cX7_isLong 12 = .ok (.if_icmp .ne 7, 3) := by decide +kernel
theorem dX7_isLong_15 : decode cX7_isLong 15 = .ok (.iconst 1, 1) := by decide +kernel
theorem dX7_isLong_16 : decode cX7_isLong 16 = .ok (.goto 4, 3) := by decide +kernel
theorem dX7_isLong_19 : decode cX7_isLong 19 = .ok (.iconst 0, 1) := by decide +kernel
theorem dX7_isLong_20 : decode cX7_isLong 20 = .ok (.ireturn, 1) := by decide +kernel
theorem dX7_reckon_0 : decode cX7_reckon 0 = .ok (.bipush 6, 2) := by decide +kernel
theorem dX7_reckon_2 : decode cX7_reckon 2 = .ok (.iload_n 1, 1) := by decide +kernel
theorem dX7_reckon_3 : decode cX7_reckon 3 = .ok (.imul, 1) := by decide +kernel
theorem dX7_reckon_4 : decode cX7_reckon 4 = .ok (.istore_n 3, 1) := by decide +kernel
theorem dX7_reckon_5 : decode cX7_reckon 5 = .ok (.aload_n 0, 1) := by decide +kernel
theorem dX7_reckon_6 : decode cX7_reckon 6 = .ok (.getfield 19, 3) := by decide +kernel
theorem dX7_reckon_9 : decode cX7_reckon 9 = .ok (.iload_n 3, 1) := by decide +kernel
theorem dX7_reckon_10 : decode cX7_reckon 10 = .ok (.iaload, 1) := by decide +kernel
theorem dX7_reckon_11 : decode cX7_reckon 11 = .ok (.istore 4, 2) := by decide +kernel
theorem dX7_reckon_13 : decode cX7_reckon 13 = .ok (.aload_n 0, 1) := by decide +kernel
theorem dX7_reckon_14 : decode cX7_reckon 14 = .ok (.getfield 19, 3) := by decide +kernel
theorem dX7_reckon_17 : decode cX7_reckon 17 = .ok (.iload_n 3, 1) := by decide +kernel
theorem dX7_reckon_18 : decode cX7_reckon 18 = .ok (.iconst 1, 1) := by decide +kernel
theorem dX7_reckon_19 : decode cX7_reckon 19 = .ok (.iadd, 1) := by decide +kernel
theorem dX7_reckon_20 : decode cX7_reckon 20 = .ok (.iaload, 1) := by decide +kernel
theorem dX7_reckon_21 : decode cX7_reckon 21 = .ok (.istore 5, 2) := by decide +kernel
theorem dX7_reckon_23 : decode cX7_reckon 23 = .ok (.aload_n 0, 1) := by decide +kernel
theorem dX7_reckon_24 : decode cX7_reckon 24 = .ok (.getfield 19, 3) := by decide +kernel
theorem dX7_reckon_27 : decode cX7_reckon 27 = .ok (.iload_n 3, 1) := by decide +kernel
theorem dX7_reckon_28 : decode cX7_reckon 28 = .ok (.iconst 2, 1) := by decide +kernel
theorem dX7_reckon_29 : decode cX7_reckon 29 = .ok (.iadd, 1) := by decide +kernel
theorem dX7_reckon_30 : decode cX7_reckon 30 = .ok (.iaload, 1) := by decide +kernel
theorem dX7_reckon_31 : decode cX7_reckon 31 = .ok (.istore 6, 2) := by decide +kernel
theorem dX7_reckon_33 : decode cX7_reckon 33 = .ok (.iload_n 1, 1) := by decide +kernel
theorem dX7_reckon_34 : decode cX7_reckon 34 = .ok (.iload_n 2, 1) := by decide +kernel
theorem dX7_reckon_35 : decode cX7_reckon 35 = .ok (.invokestatic 140, 3) := by decide +kernel
theorem dX7_reckon_38 : decode cX7_reckon 38 = .ok (.istore 7, 2) := by decide +kernel
theorem dX7_reckon_40 : decode cX7_reckon 40 = .ok (.aload_n 0, 1) := by decide +kernel
theorem dX7_reckon_41 : decode cX7_reckon 41 = .ok (.getfield 26, 3) := by decide +kernel
theorem dX7_reckon_44 : decode cX7_reckon 44 = .ok (.iload 7, 2) := by decide +kernel
theorem dX7_reckon_46 : decode cX7_reckon 46 = .ok (.iconst 0, 1) := by decide +kernel
theorem dX7_reckon_47 : decode cX7_reckon 47 = .ok (.iastore, 1) := by decide +kernel
theorem dX7_reckon_48 : decode cX7_reckon 48 = .ok (.iload 4, 2) := by decide +kernel
theorem dX7_reckon_50 : decode cX7_reckon 50 = .ok (.ifCond .ne 12, 3) := by decide +kernel
theorem dX7_reckon_53 : decode cX7_reckon 53 = .ok (.aload_n 0, 1) := by decide +kernel
theorem dX7_reckon_54 : decode cX7_reckon 54 = .ok (.iload 7, 2) := by decide +kernel
theorem dX7_reckon_56 : decode cX7_reckon 56 = .ok (.iload_n 2, 1) := by decide +kernel
theorem dX7_reckon_57 : decode cX7_reckon 57 = .ok (.iload_n 3, 1) := by decide +kernel
theorem dX7_reckon_58 : decode cX7_reckon 58 = .ok (.invokevirtual 144, 3) := by decide +kernel
theorem dX7_reckon_61 : decode cX7_reckon 61 = .ok (.return_, 1) := by decide +kernel
theorem dX7_reckon_62 : decode cX7_reckon 62 = .ok (.iload 4, 2) := by decide +kernel
theorem dX7_reckon_64 : decode cX7_reckon 64 = .ok (.iconst 1, 1) := by decide +kernel
theorem dX7_reckon_65 : decode cX7_reckon 65 = .ok (.if_icmp .lt 13, 3) := by decide +kernel
theorem dX7_reckon_68 : decode cX7_reckon 68 = .ok (.iload 4, 2) := by decide +kernel
theorem dX7_reckon_70 : decode cX7_reckon 70 = .ok (.iconst 4, 1) := by decide +kernel
theorem dX7_reckon_71 : decode cX7_reckon 71 = .ok (.if_icmp .gt 7, 3) := by decide +kernel
theorem dX7_reckon_74 : decode cX7_reckon 74 = .ok (.iconst 1, 1) := by decide +kernel
theorem dX7_reckon_75 : decode cX7_reckon 75 = .ok (.goto 4, 3) := by decide +kernel
theorem dX7_reckon_78 : decode cX7_reckon 78 = .ok (.iconst 0, 1) := by decide +kernel
theorem dX7_reckon_79 : decode cX7_reckon 79 = .ok (.istore 8, 2) := by decide +kernel
theorem dX7_reckon_81 : decode cX7_reckon 81 = .ok (.iload 4, 2) := by decide +kernel
theorem dX7_reckon_83 : decode cX7_reckon 83 = .ok (.bipush 12, 2) := by decide +kernel
theorem dX7_reckon_85 : decode cX7_reckon 85 = .ok (.if_icmp .ne 14, 3) := by decide +kernel
theorem dX7_reckon_88 : decode cX7_reckon 88 = .ok (.aload_n 0, 1) := by decide +kernel
theorem dX7_reckon_89 : decode cX7_reckon 89 = .ok (.iload 5, 2) := by decide +kernel
theorem dX7_reckon_91 : decode cX7_reckon 91 = .ok (.iload 6, 2) := by decide +kernel
theorem dX7_reckon_93 : decode cX7_reckon 93 = .ok (.invokevirtual 148, 3) := by decide +kernel
theorem dX7_reckon_96 : decode cX7_reckon 96 = .ok (.goto 78, 3) := by decide +kernel
theorem dX7_reckon_99 : decode cX7_reckon 99 = .ok (.iload 4, 2) := by decide +kernel
theorem dX7_reckon_101 : decode cX7_reckon 101 = .ok (.bipush 13, 2) := by decide +kernel
theorem dX7_reckon_103 : decode cX7_reckon 103 = .ok (.if_icmp .ne 41, 3) := by decide +kernel
theorem dX7_reckon_106 : decode cX7_reckon 106 = .ok (.aload_n 0, 1) := by decide +kernel
theorem dX7_reckon_107 : decode cX7_reckon 107 = .ok (.iload 5, 2) := by decide +kernel
theorem dX7_reckon_109 : decode cX7_reckon 109 = .ok (.iconst 1, 1) := by decide +kernel
theorem dX7_reckon_110 : decode cX7_reckon 110 = .ok (.invokevirtual 148, 3) := by decide +kernel
theorem dX7_reckon_113 : decode cX7_reckon 113 = .ok (.ifCond .ne 23, 3) := by decide +kernel
theorem dX7_reckon_116 : decode cX7_reckon 116 = .ok (.aload_n 0, 1) := by decide +kernel
theorem dX7_reckon_117 : decode cX7_reckon 117 = .ok (.iload 5, 2) := by decide +kernel
theorem dX7_reckon_119 : decode cX7_reckon 119 = .ok (.iconst 2, 1) := by decide +kernel
theorem dX7_reckon_120 : decode cX7_reckon 120 = .ok (.invokevirtual 148, 3) := by decide +kernel
theorem dX7_reckon_123 : decode cX7_reckon 123 = .ok (.ifCond .ne 13, 3) := by decide +kernel
theorem dX7_reckon_126 : decode cX7_reckon 126 = .ok (.aload_n 0, 1) := by decide +kernel
theorem dX7_reckon_127 : decode cX7_reckon 127 = .ok (.iload 5, 2) := by decide +kernel
theorem dX7_reckon_129 : decode cX7_reckon 129 = .ok (.iconst 3, 1) := by decide +kernel
theorem dX7_reckon_130 : decode cX7_reckon 130 = .ok (.invokevirtual 148, 3) := by decide +kernel
theorem dX7_reckon_133 : decode cX7_reckon 133 = .ok (.ifCond .eq 7, 3) := by decide +kernel
theorem dX7_reckon_136 : decode cX7_reckon 136 = .ok (.iconst 1, 1) := by decide +kernel
theorem dX7_reckon_137 : decode cX7_reckon 137 = .ok (.goto 37, 3) := by decide +kernel
theorem dX7_reckon_140 : decode cX7_reckon 140 = .ok (.iconst 0, 1) := by decide +kernel
theorem dX7_reckon_141 : decode cX7_reckon 141 = .ok (.goto 33, 3) := by decide +kernel
theorem dX7_reckon_144 : decode cX7_reckon 144 = .ok (.aload_n 0, 1) := by decide +kernel
theorem dX7_reckon_145 : decode cX7_reckon 145 = .ok (.iload 5, 2) := by decide +kernel
theorem dX7_reckon_147 : decode cX7_reckon 147 = .ok (.iload_n 2, 1) := by decide +kernel
theorem dX7_reckon_148 : decode cX7_reckon 148 = .ok (.invokevirtual 148, 3) := by decide +kernel
theorem dX7_reckon_151 : decode cX7_reckon 151 = .ok (.ifCond .ne 18, 3) := by decide +kernel
theorem dX7_reckon_154 : decode cX7_reckon 154 = .ok (.iload 8, 2) := by decide +kernel
theorem dX7_reckon_156 : decode cX7_reckon 156 = .ok (.ifCond .eq 17, 3) := by decide +kernel
theorem dX7_reckon_159 : decode cX7_reckon 159 = .ok (.aload_n 0, 1) := by decide +kernel
theorem dX7_reckon_160 : decode cX7_reckon 160 = .ok (.iload 6, 2) := by decide +kernel
theorem dX7_reckon_162 : decode cX7_reckon 162 = .ok (.iload_n 2, 1) := by decide +kernel
theorem dX7_reckon_163 : decode cX7_reckon 163 = .ok (.invokevirtual 148, 3) := by decide +kernel
theorem dX7_reckon_166 : decode cX7_reckon 166 = .ok (.ifCond .eq 7, 3) := by decide +kernel
theorem dX7_reckon_169 : decode cX7_reckon 169 = .ok (.iconst 1, 1) := by decide +kernel
theorem dX7_reckon_170 : decode cX7_reckon 170 = .ok (.goto 4, 3) := by decide +kernel
theorem dX7_reckon_173 : decode cX7_reckon 173 = .ok (.iconst 0, 1) := by decide +kernel
theorem dX7_reckon_174 : decode cX7_reckon 174 = .ok (.istore 9, 2) := by decide +kernel
theorem dX7_reckon_176 : decode cX7_reckon 176 = .ok (.iload 9, 2) := by decide +kernel
theorem dX7_reckon_178 : decode cX7_reckon 178 = .ok (.ifCond .eq 13, 3) := by decide +kernel
theorem dX7_reckon_181 : decode cX7_reckon 181 = .ok (.aload_n 0, 1) := by decide +kernel
theorem dX7_reckon_182 : decode cX7_reckon 182 = .ok (.getfield 26, 3) := by decide +kernel
theorem dX7_reckon_185 : decode cX7_reckon 185 = .ok (.iload 7, 2) := by decide +kernel
theorem dX7_reckon_187 : decode cX7_reckon 187 = .ok (.bipush (-2), 2) := by decide +kernel
theorem dX7_reckon_189 : decode cX7_reckon 189 = .ok (.iastore, 1) := by decide +kernel
theorem dX7_reckon_190 : decode cX7_reckon 190 = .ok (.return_, 1) := by decide +kernel
theorem dX7_reckon_191 : decode cX7_reckon 191 = .ok (.iload 5, 2) := by decide +kernel
theorem dX7_reckon_193 : decode cX7_reckon 193 = .ok (.iload_n 2, 1) := by decide +kernel
theorem dX7_reckon_194 : decode cX7_reckon 194 = .ok (.invokestatic 140, 3) := by decide +kernel
theorem dX7_reckon_197 : decode cX7_reckon 197 = .ok (.istore 10, 2) := by decide +kernel
theorem dX7_reckon_199 : decode cX7_reckon 199 = .ok (.iload 4, 2) := by decide +kernel
theorem dX7_reckon_201 : decode cX7_reckon 201 = .ok (.tableswitch 233 1 13 #[67, 86, 115, 132, 233, 233, 233, 233, 233, 158, 188, 200, 220], 67) := by decide +kernel
theorem dX7_reckon_268 : decode cX7_reckon 268 = .ok (.aload_n 0, 1) := by decide +kernel
theorem dX7_reckon_269 : decode cX7_reckon 269 = .ok (.iload 7, 2) := by decide +kernel
theorem dX7_reckon_271 : decode cX7_reckon 271 = .ok (.iload 10, 2) := by decide +kernel
theorem dX7_reckon_273 : decode cX7_reckon 273 = .ok (.iload 6, 2) := by decide +kernel
theorem dX7_reckon_275 : decode cX7_reckon 275 = .ok (.iload_n 2, 1) := by decide +kernel
theorem dX7_reckon_276 : decode cX7_reckon 276 = .ok (.invokestatic 140, 3) := by decide +kernel
theorem dX7_reckon_279 : decode cX7_reckon 279 = .ok (.iconst 0, 1) := by decide +kernel
theorem dX7_reckon_280 : decode cX7_reckon 280 = .ok (.iconst (-1), 1) := by decide +kernel
theorem dX7_reckon_281 : decode cX7_reckon 281 = .ok (.invokevirtual 151, 3) := by decide +kernel
theorem dX7_reckon_284 : decode cX7_reckon 284 = .ok (.goto 170, 3) := by decide +kernel
theorem dX7_reckon_287 : decode cX7_reckon 287 = .ok (.aload_n 0, 1) := by decide +kernel
theorem dX7_reckon_288 : decode cX7_reckon 288 = .ok (.iload 7, 2) := by decide +kernel
theorem dX7_reckon_290 : decode cX7_reckon 290 = .ok (.iload 10, 2) := by decide +kernel
theorem dX7_reckon_292 : decode cX7_reckon 292 = .ok (.iconst 2, 1) := by decide +kernel
theorem dX7_reckon_293 : decode cX7_reckon 293 = .ok (.iconst 0, 1) := by decide +kernel
theorem dX7_reckon_294 : decode cX7_reckon 294 = .ok (.iconst 0, 1) := by decide +kernel
theorem dX7_reckon_295 : decode cX7_reckon 295 = .ok (.invokevirtual 155, 3) := by decide +kernel
theorem dX7_reckon_298 : decode cX7_reckon 298 = .ok (.aload_n 0, 1) := by decide +kernel
theorem dX7_reckon_299 : decode cX7_reckon 299 = .ok (.iload 7, 2) := by decide +kernel
theorem dX7_reckon_301 : decode cX7_reckon 301 = .ok (.iload 6, 2) := by decide +kernel
theorem dX7_reckon_303 : decode cX7_reckon 303 = .ok (.iload_n 2, 1) := by decide +kernel
theorem dX7_reckon_304 : decode cX7_reckon 304 = .ok (.invokestatic 140, 3) := by decide +kernel
theorem dX7_reckon_307 : decode cX7_reckon 307 = .ok (.iconst 2, 1) := by decide +kernel
theorem dX7_reckon_308 : decode cX7_reckon 308 = .ok (.iconst 0, 1) := by decide +kernel
theorem dX7_reckon_309 : decode cX7_reckon 309 = .ok (.iconst 0, 1) := by decide +kernel
theorem dX7_reckon_310 : decode cX7_reckon 310 = .ok (.invokevirtual 155, 3) := by decide +kernel
theorem dX7_reckon_313 : decode cX7_reckon 313 = .ok (.goto 141, 3) := by decide +kernel
theorem dX7_reckon_316 : decode cX7_reckon 316 = .ok (.aload_n 0, 1) := by decide +kernel
theorem dX7_reckon_317 : decode cX7_reckon 317 = .ok (.iload 7, 2) := by decide +kernel
theorem dX7_reckon_319 : decode cX7_reckon 319 = .ok (.iload 10, 2) := by decide +kernel
theorem dX7_reckon_321 : decode cX7_reckon 321 = .ok (.iload 6, 2) := by decide +kernel
theorem dX7_reckon_323 : decode cX7_reckon 323 = .ok (.iload_n 2, 1) := by decide +kernel
theorem dX7_reckon_324 : decode cX7_reckon 324 = .ok (.invokestatic 140, 3) := by decide +kernel
theorem dX7_reckon_327 : decode cX7_reckon 327 = .ok (.invokevirtual 159, 3) := by decide +kernel
theorem dX7_reckon_330 : decode cX7_reckon 330 = .ok (.goto 124, 3) := by decide +kernel
theorem dX7_reckon_333 : decode cX7_reckon 333 = .ok (.aload_n 0, 1) := by decide +kernel
theorem dX7_reckon_334 : decode cX7_reckon 334 = .ok (.iload 7, 2) := by decide +kernel
theorem dX7_reckon_336 : decode cX7_reckon 336 = .ok (.iload 10, 2) := by decide +kernel
theorem dX7_reckon_338 : decode cX7_reckon 338 = .ok (.iload 6, 2) := by decide +kernel
theorem dX7_reckon_340 : decode cX7_reckon 340 = .ok (.iload_n 2, 1) := by decide +kernel
theorem dX7_reckon_341 : decode cX7_reckon 341 = .ok (.invokestatic 140, 3) := by decide +kernel
theorem dX7_reckon_344 : decode cX7_reckon 344 = .ok (.iconst 1, 1) := by decide +kernel
theorem dX7_reckon_345 : decode cX7_reckon 345 = .ok (.aload_n 0, 1) := by decide +kernel
theorem dX7_reckon_346 : decode cX7_reckon 346 = .ok (.getfield 19, 3) := by decide +kernel
theorem dX7_reckon_349 : decode cX7_reckon 349 = .ok (.iload_n 3, 1) := by decide +kernel
theorem dX7_reckon_350 : decode cX7_reckon 350 = .ok (.iconst 3, 1) := by decide +kernel
theorem dX7_reckon_351 : decode cX7_reckon 351 = .ok (.iadd, 1) := by decide +kernel
theorem dX7_reckon_352 : decode cX7_reckon 352 = .ok (.iaload, 1) := by decide +kernel
theorem dX7_reckon_353 : decode cX7_reckon 353 = .ok (.invokevirtual 151, 3) := by decide +kernel
theorem dX7_reckon_356 : decode cX7_reckon 356 = .ok (.goto 98, 3) := by decide +kernel
theorem dX7_reckon_359 : decode cX7_reckon 359 = .ok (.aload_n 0, 1) := by decide +kernel
theorem dX7_reckon_360 : decode cX7_reckon 360 = .ok (.iload 7, 2) := by decide +kernel
theorem dX7_reckon_362 : decode cX7_reckon 362 = .ok (.iload 10, 2) := by decide +kernel
theorem dX7_reckon_364 : decode cX7_reckon 364 = .ok (.iload 6, 2) := by decide +kernel
theorem dX7_reckon_366 : decode cX7_reckon 366 = .ok (.aload_n 0, 1) := by decide +kernel
theorem dX7_reckon_367 : decode cX7_reckon 367 = .ok (.getfield 19, 3) := by decide +kernel
theorem dX7_reckon_370 : decode cX7_reckon 370 = .ok (.iload_n 3, 1) := by decide +kernel
theorem dX7_reckon_371 : decode cX7_reckon 371 = .ok (.iconst 3, 1) := by decide +kernel
theorem dX7_reckon_372 : decode cX7_reckon 372 = .ok (.iadd, 1) := by decide +kernel
theorem dX7_reckon_373 : decode cX7_reckon 373 = .ok (.iaload, 1) := by decide +kernel
theorem dX7_reckon_374 : decode cX7_reckon 374 = .ok (.iconst 1, 1) := by decide +kernel
theorem dX7_reckon_375 : decode cX7_reckon 375 = .ok (.if_icmp .ne 7, 3) := by decide +kernel
theorem dX7_reckon_378 : decode cX7_reckon 378 = .ok (.iconst 1, 1) := by decide +kernel
theorem dX7_reckon_379 : decode cX7_reckon 379 = .ok (.goto 4, 3) := by decide +kernel
theorem dX7_reckon_382 : decode cX7_reckon 382 = .ok (.iconst 0, 1) := by decide +kernel
theorem dX7_reckon_383 : decode cX7_reckon 383 = .ok (.invokevirtual 162, 3) := by decide +kernel
theorem dX7_reckon_386 : decode cX7_reckon 386 = .ok (.goto 68, 3) := by decide +kernel
theorem dX7_reckon_389 : decode cX7_reckon 389 = .ok (.aload_n 0, 1) := by decide +kernel
theorem dX7_reckon_390 : decode cX7_reckon 390 = .ok (.iload 7, 2) := by decide +kernel
theorem dX7_reckon_392 : decode cX7_reckon 392 = .ok (.iload 10, 2) := by decide +kernel
theorem dX7_reckon_394 : decode cX7_reckon 394 = .ok (.iload_n 3, 1) := by decide +kernel
theorem dX7_reckon_395 : decode cX7_reckon 395 = .ok (.invokevirtual 166, 3) := by decide +kernel
theorem dX7_reckon_398 : decode cX7_reckon 398 = .ok (.goto 56, 3) := by decide +kernel
theorem dX7_reckon_401 : decode cX7_reckon 401 = .ok (.aload_n 0, 1) := by decide +kernel
theorem dX7_reckon_402 : decode cX7_reckon 402 = .ok (.iload 7, 2) := by decide +kernel
theorem dX7_reckon_404 : decode cX7_reckon 404 = .ok (.iload 5, 2) := by decide +kernel
theorem dX7_reckon_406 : decode cX7_reckon 406 = .ok (.iload 6, 2) := by decide +kernel
theorem dX7_reckon_408 : decode cX7_reckon 408 = .ok (.invokestatic 140, 3) := by decide +kernel
theorem dX7_reckon_411 : decode cX7_reckon 411 = .ok (.bipush 12, 2) := by decide +kernel
theorem dX7_reckon_413 : decode cX7_reckon 413 = .ok (.iconst 0, 1) := by decide +kernel
theorem dX7_reckon_414 : decode cX7_reckon 414 = .ok (.iconst 0, 1) := by decide +kernel
theorem dX7_reckon_415 : decode cX7_reckon 415 = .ok (.invokevirtual 155, 3) := by decide +kernel
theorem dX7_reckon_418 : decode cX7_reckon 418 = .ok (.goto 36, 3) := by decide +kernel
theorem dX7_reckon_421 : decode cX7_reckon 421 = .ok (.aload_n 0, 1) := by decide +kernel
theorem dX7_reckon_422 : decode cX7_reckon 422 = .ok (.iload 7, 2) := by decide +kernel
theorem dX7_reckon_424 : decode cX7_reckon 424 = .ok (.iload 5, 2) := by decide +kernel
theorem dX7_reckon_426 : decode cX7_reckon 426 = .ok (.iload 6, 2) := by decide +kernel
theorem dX7_reckon_428 : decode cX7_reckon 428 = .ok (.invokevirtual 169, 3) := by decide +kernel
theorem dX7_reckon_431 : decode cX7_reckon 431 = .ok (.goto 23, 3) := by decide +kernel
theorem dX7_reckon_434 : decode cX7_reckon 434 = .ok (.aload_n 0, 1) := by decide +kernel
theorem dX7_reckon_435 : decode cX7_reckon 435 = .ok (.iload 7, 2) := by decide +kernel
theorem dX7_reckon_437 : decode cX7_reckon 437 = .ok (.iload 10, 2) := by decide +kernel
theorem dX7_reckon_439 : decode cX7_reckon 439 = .ok (.iload 4, 2) := by decide +kernel
theorem dX7_reckon_441 : decode cX7_reckon 441 = .ok (.iload 6, 2) := by decide +kernel
theorem dX7_reckon_443 : decode cX7_reckon 443 = .ok (.aload_n 0, 1) := by decide +kernel
theorem dX7_reckon_444 : decode cX7_reckon 444 = .ok (.getfield 19, 3) := by decide +kernel
theorem dX7_reckon_447 : decode cX7_reckon 447 = .ok (.iload_n 3, 1) := by decide +kernel
theorem dX7_reckon_448 : decode cX7_reckon 448 = .ok (.iconst 3, 1) := by decide +kernel
theorem dX7_reckon_449 : decode cX7_reckon 449 = .ok (.iadd, 1) := by decide +kernel
theorem dX7_reckon_450 : decode cX7_reckon 450 = .ok (.iaload, 1) := by decide +kernel
theorem dX7_reckon_451 : decode cX7_reckon 451 = .ok (.invokevirtual 155, 3) := by decide +kernel
theorem dX7_reckon_454 : decode cX7_reckon 454 = .ok (.return_, 1) := by decide +kernel
theorem dX7_learn_0 : decode cX7_learn 0 = .ok (.iconst 0, 1) := by decide +kernel
theorem dX7_learn_1 : decode cX7_learn 1 = .ok (.istore_n 1, 1) := by decide +kernel
theorem dX7_learn_2 : decode cX7_learn 2 = .ok (.iload_n 1, 1) := by decide +kernel
theorem dX7_learn_3 : decode cX7_learn 3 = .ok (.aload_n 0, 1) := by decide +kernel
theorem dX7_learn_4 : decode cX7_learn 4 = .ok (.getfield 85, 3) := by decide +kernel
theorem dX7_learn_7 : decode cX7_learn 7 = .ok (.if_icmp .ge 35, 3) := by decide +kernel
theorem dX7_learn_10 : decode cX7_learn 10 = .ok (.aload_n 0, 1) := by decide +kernel
theorem dX7_learn_11 : decode cX7_learn 11 = .ok (.getfield 41, 3) := by decide +kernel
theorem dX7_learn_14 : decode cX7_learn 14 = .ok (.ifCond .ne 28, 3) := by decide +kernel
theorem dX7_learn_17 : decode cX7_learn 17 = .ok (.iconst 0, 1) := by decide +kernel
theorem dX7_learn_18 : decode cX7_learn 18 = .ok (.istore_n 2, 1) := by decide +kernel
theorem dX7_learn_19 : decode cX7_learn 19 = .ok (.iload_n 2, 1) := by decide +kernel
theorem dX7_learn_20 : decode cX7_learn 20 = .ok (.iconst 4, 1) := by decide +kernel
theorem dX7_learn_21 : decode cX7_learn 21 = .ok (.if_icmp .ge 15, 3) := by decide +kernel
theorem dX7_learn_24 : decode cX7_learn 24 = .ok (.aload_n 0, 1) := by decide +kernel
theorem dX7_learn_25 : decode cX7_learn 25 = .ok (.iload_n 1, 1) := by decide +kernel
theorem dX7_learn_26 : decode cX7_learn 26 = .ok (.iload_n 2, 1) := by decide +kernel
theorem dX7_learn_27 : decode cX7_learn 27 = .ok (.invokevirtual 172, 3) := by decide +kernel
theorem dX7_learn_30 : decode cX7_learn 30 = .ok (.iinc 2 1, 3) := by decide +kernel
theorem dX7_learn_33 : decode cX7_learn 33 = .ok (.goto (-14), 3) := by decide +kernel
theorem dX7_learn_36 : decode cX7_learn 36 = .ok (.iinc 1 1, 3) := by decide +kernel
theorem dX7_learn_39 : decode cX7_learn 39 = .ok (.goto (-37), 3) := by decide +kernel
theorem dX7_learn_42 : decode cX7_learn 42 = .ok (.aload_n 0, 1) := by decide +kernel
theorem dX7_learn_43 : decode cX7_learn 43 = .ok (.iconst 1, 1) := by decide +kernel
theorem dX7_learn_44 : decode cX7_learn 44 = .ok (.putfield 41, 3) := by decide +kernel
theorem dX7_learn_47 : decode cX7_learn 47 = .ok (.return_, 1) := by decide +kernel
theorem dX7_run_0 : decode cX7_run 0 = .ok (.aload_n 0, 1) := by decide +kernel
theorem dX7_run_1 : decode cX7_run 1 = .ok (.iload_n 1, 1) := by decide +kernel
theorem dX7_run_2 : decode cX7_run 2 = .ok (.invokevirtual 95, 3) := by decide +kernel
theorem dX7_run_5 : decode cX7_run 5 = .ok (.ifCond .ne 5, 3) := by decide +kernel
theorem dX7_run_8 : decode cX7_run 8 = .ok (.iconst (-1), 1) := by decide +kernel
theorem dX7_run_9 : decode cX7_run 9 = .ok (.ireturn, 1) := by decide +kernel
theorem dX7_run_10 : decode cX7_run 10 = .ok (.aload_n 0, 1) := by decide +kernel
theorem dX7_run_11 : decode cX7_run 11 = .ok (.invokevirtual 175, 3) := by decide +kernel
theorem dX7_run_14 : decode cX7_run 14 = .ok (.iload_n 1, 1) := by decide +kernel
theorem dX7_run_15 : decode cX7_run 15 = .ok (.iconst 0, 1) := by decide +kernel
theorem dX7_run_16 : decode cX7_run 16 = .ok (.invokestatic 140, 3) := by decide +kernel
theorem dX7_run_19 : decode cX7_run 19 = .ok (.istore_n 2, 1) := by decide +kernel
theorem dX7_run_20 : decode cX7_run 20 = .ok (.aload_n 0, 1) := by decide +kernel
theorem dX7_run_21 : decode cX7_run 21 = .ok (.getfield 26, 3) := by decide +kernel
theorem dX7_run_24 : decode cX7_run 24 = .ok (.iload_n 2, 1) := by decide +kernel
theorem dX7_run_25 : decode cX7_run 25 = .ok (.iaload, 1) := by decide +kernel
theorem dX7_run_26 : decode cX7_run 26 = .ok (.bipush (-2), 2) := by decide +kernel
theorem dX7_run_28 : decode cX7_run 28 = .ok (.if_icmp .ne 6, 3) := by decide +kernel
theorem dX7_run_31 : decode cX7_run 31 = .ok (.bipush (-2), 2) := by decide +kernel
theorem dX7_run_33 : decode cX7_run 33 = .ok (.ireturn, 1) := by decide +kernel
theorem dX7_run_34 : decode cX7_run 34 = .ok (.aload_n 0, 1) := by decide +kernel
theorem dX7_run_35 : decode cX7_run 35 = .ok (.aload_n 0, 1) := by decide +kernel
theorem dX7_run_36 : decode cX7_run 36 = .ok (.getfield 26, 3) := by decide +kernel
theorem dX7_run_39 : decode cX7_run 39 = .ok (.iload_n 2, 1) := by decide +kernel
theorem dX7_run_40 : decode cX7_run 40 = .ok (.iaload, 1) := by decide +kernel
theorem dX7_run_41 : decode cX7_run 41 = .ok (.putfield 178, 3) := by decide +kernel
theorem dX7_run_44 : decode cX7_run 44 = .ok (.iconst 0, 1) := by decide +kernel
theorem dX7_run_45 : decode cX7_run 45 = .ok (.istore_n 3, 1) := by decide +kernel
theorem dX7_run_46 : decode cX7_run 46 = .ok (.iload_n 3, 1) := by decide +kernel
theorem dX7_run_47 : decode cX7_run 47 = .ok (.bipush 6, 2) := by decide +kernel
theorem dX7_run_49 : decode cX7_run 49 = .ok (.aload_n 0, 1) := by decide +kernel
theorem dX7_run_50 : decode cX7_run 50 = .ok (.getfield 178, 3) := by decide +kernel
theorem dX7_run_53 : decode cX7_run 53 = .ok (.imul, 1) := by decide +kernel
theorem dX7_run_54 : decode cX7_run 54 = .ok (.if_icmp .ge 27, 3) := by decide +kernel
theorem dX7_run_57 : decode cX7_run 57 = .ok (.aload_n 0, 1) := by decide +kernel
theorem dX7_run_58 : decode cX7_run 58 = .ok (.getfield 32, 3) := by decide +kernel
theorem dX7_run_61 : decode cX7_run 61 = .ok (.iload_n 3, 1) := by decide +kernel
theorem dX7_run_62 : decode cX7_run 62 = .ok (.aload_n 0, 1) := by decide +kernel
theorem dX7_run_63 : decode cX7_run 63 = .ok (.getfield 23, 3) := by decide +kernel
theorem dX7_run_66 : decode cX7_run 66 = .ok (.sipush 480, 3) := by decide +kernel
theorem dX7_run_69 : decode cX7_run 69 = .ok (.iload_n 2, 1) := by decide +kernel
theorem dX7_run_70 : decode cX7_run 70 = .ok (.imul, 1) := by decide +kernel
theorem dX7_run_71 : decode cX7_run 71 = .ok (.iload_n 3, 1) := by decide +kernel
theorem dX7_run_72 : decode cX7_run 72 = .ok (.iadd, 1) := by decide +kernel
theorem dX7_run_73 : decode cX7_run 73 = .ok (.iaload, 1) := by decide +kernel
theorem dX7_run_74 : decode cX7_run 74 = .ok (.iastore, 1) := by decide +kernel
theorem dX7_run_75 : decode cX7_run 75 = .ok (.iinc 3 1, 3) := by decide +kernel
theorem dX7_run_78 : decode cX7_run 78 = .ok (.goto (-32), 3) := by decide +kernel
theorem dX7_run_81 : decode cX7_run 81 = .ok (.aload_n 0, 1) := by decide +kernel
theorem dX7_run_82 : decode cX7_run 82 = .ok (.getfield 178, 3) := by decide +kernel
theorem dX7_run_85 : decode cX7_run 85 = .ok (.ireturn, 1) := by decide +kernel
theorem dX7_isShown_0 : decode cX7_isShown 0 = .ok (.iload_n 1, 1) := by decide +kernel
theorem dX7_isShown_1 : decode cX7_isShown 1 = .ok (.ifCond .lt 15, 3) := by decide +kernel
theorem dX7_isShown_4 : decode cX7_isShown 4 = .ok (.iload_n 1, 1) := by decide +kernel
theorem dX7_isShown_5 : decode cX7_isShown 5 = .ok (.aload_n 0, 1) := by decide +kernel
theorem dX7_isShown_6 : decode cX7_isShown 6 = .ok (.getfield 178, 3) := by decide +kernel
theorem dX7_isShown_9 : decode cX7_isShown 9 = .ok (.if_icmp .ge 7, 3) := by decide +kernel
theorem dX7_isShown_12 : decode cX7_isShown 12 = .ok (.iconst 1, 1) := by decide +kernel
theorem dX7_isShown_13 : decode cX7_isShown 13 = .ok (.goto 4, 3) := by decide +kernel
theorem dX7_isShown_16 : decode cX7_isShown 16 = .ok (.iconst 0, 1) := by decide +kernel
theorem dX7_isShown_17 : decode cX7_isShown 17 = .ok (.ireturn, 1) := by decide +kernel
theorem dX7_value_0 : decode cX7_value 0 = .ok (.aload_n 0, 1) := by decide +kernel
theorem dX7_value_1 : decode cX7_value 1 = .ok (.iload_n 1, 1) := by decide +kernel
theorem dX7_value_2 : decode cX7_value 2 = .ok (.invokevirtual 181, 3) := by decide +kernel
theorem dX7_value_5 : decode cX7_value 5 = .ok (.ifCond .eq 24, 3) := by decide +kernel
theorem dX7_value_8 : decode cX7_value 8 = .ok (.iload_n 2, 1) := by decide +kernel
theorem dX7_value_9 : decode cX7_value 9 = .ok (.invokestatic 58, 3) := by decide +kernel
theorem dX7_value_12 : decode cX7_value 12 = .ok (.ifCond .eq 17, 3) := by decide +kernel
theorem dX7_value_15 : decode cX7_value 15 = .ok (.aload_n 0, 1) := by decide +kernel
theorem dX7_value_16 : decode cX7_value 16 = .ok (.getfield 32, 3) := by decide +kernel
theorem dX7_value_19 : decode cX7_value 19 = .ok (.bipush 6, 2) := by decide +kernel
theorem dX7_value_21 : decode cX7_value 21 = .ok (.iload_n 1, 1) := by decide +kernel
theorem dX7_value_22 : decode cX7_value 22 = .ok (.imul, 1) := by decide +kernel
theorem dX7_value_23 : decode cX7_value 23 = .ok (.iload_n 2, 1) := by decide +kernel
theorem dX7_value_24 : decode cX7_value 24 = .ok (.iadd, 1) := by decide +kernel
theorem dX7_value_25 : decode cX7_value 25 = .ok (.iaload, 1) := by decide +kernel
theorem dX7_value_26 : decode cX7_value 26 = .ok (.goto 5, 3) := by decide +kernel
theorem dX7_value_29 : decode cX7_value 29 = .ok (.ldc 73, 2) := by decide +kernel
theorem dX7_value_31 : decode cX7_value 31 = .ok (.ireturn, 1) := by decide +kernel
theorem dX7_look_0 : decode cX7_look 0 = .ok (.aload_n 0, 1) := by decide +kernel
theorem dX7_look_1 : decode cX7_look 1 = .ok (.iload_n 1, 1) := by decide +kernel
theorem dX7_look_2 : decode cX7_look 2 = .ok (.invokevirtual 181, 3) := by decide +kernel
theorem dX7_look_5 : decode cX7_look 5 = .ok (.ifCond .eq 11, 3) := by decide +kernel
theorem dX7_look_8 : decode cX7_look 8 = .ok (.aload_n 0, 1) := by decide +kernel
theorem dX7_look_9 : decode cX7_look 9 = .ok (.iload_n 2, 1) := by decide +kernel
theorem dX7_look_10 : decode cX7_look 10 = .ok (.invokevirtual 66, 3) := by decide +kernel
