theorem dX0_init_0 : decode cX0_init 0 = .ok (.aload_n 0, 1) := by decide +kernel
theorem dX0_init_1 : decode cX0_init 1 = .ok (.invokespecial 3, 3) := by decide +kernel
theorem dX0_init_4 : decode cX0_init 4 = .ok (.aload_n 0, 1) := by decide +kernel
theorem dX0_init_5 : decode cX0_init 5 = .ok (.bipush 30, 2) := by decide +kernel
theorem dX0_init_7 : decode cX0_init 7 = .ok (.newarray .int, 2) := by decide +kernel
theorem dX0_init_9 : decode cX0_init 9 = .ok (.putfield 9, 3) := by decide +kernel
theorem dX0_init_12 : decode cX0_init 12 = .ok (.aload_n 0, 1) := by decide +kernel
theorem dX0_init_13 : decode cX0_init 13 = .ok (.bipush 30, 2) := by decide +kernel
theorem dX0_init_15 : decode cX0_init 15 = .ok (.newarray .int, 2) := by decide +kernel
theorem dX0_init_17 : decode cX0_init 17 = .ok (.putfield 15, 3) := by decide +kernel
theorem dX0_init_20 : decode cX0_init 20 = .ok (.aload_n 0, 1) := by decide +kernel
theorem dX0_init_21 : decode cX0_init 21 = .ok (.bipush 30, 2) := by decide +kernel
theorem dX0_init_23 : decode cX0_init 23 = .ok (.newarray .int, 2) := by decide +kernel
theorem dX0_init_25 : decode cX0_init 25 = .ok (.putfield 18, 3) := by decide +kernel
theorem dX0_init_28 : decode cX0_init 28 = .ok (.aload_n 0, 1) := by decide +kernel
theorem dX0_init_29 : decode cX0_init 29 = .ok (.bipush 30, 2) := by decide +kernel
theorem dX0_init_31 : decode cX0_init 31 = .ok (.newarray .int, 2) := by decide +kernel
theorem dX0_init_33 : decode cX0_init 33 = .ok (.putfield 21, 3) := by decide +kernel
theorem dX0_init_36 : decode cX0_init 36 = .ok (.aload_n 0, 1) := by decide +kernel
theorem dX0_init_37 : decode cX0_init 37 = .ok (.bipush 30, 2) := by decide +kernel
theorem dX0_init_39 : decode cX0_init 39 = .ok (.newarray .int, 2) := by decide +kernel
theorem dX0_init_41 : decode cX0_init 41 = .ok (.putfield 24, 3) := by decide +kernel
theorem dX0_init_44 : decode cX0_init 44 = .ok (.return_, 1) := by decide +kernel
theorem dX0_has_0 : decode cX0_has 0 = .ok (.iload_n 1, 1) := by decide +kernel
theorem dX0_has_1 : decode cX0_has 1 = .ok (.aload_n 0, 1) := by decide +kernel
theorem dX0_has_2 : decode cX0_has 2 = .ok (.getfield 27, 3) := by decide +kernel
theorem dX0_has_5 : decode cX0_has 5 = .ok (.invokestatic 31, 3) := by decide +kernel
theorem dX0_has_8 : decode cX0_has 8 = .ok (.ireturn, 1) := by decide +kernel
theorem dX0_addLeaf_0 : decode cX0_addLeaf 0 = .ok (.aload_n 0, 1) := by decide +kernel
theorem dX0_addLeaf_1 : decode cX0_addLeaf 1 = .ok (.bipush 9, 2) := by decide +kernel
theorem dX0_addLeaf_3 : decode cX0_addLeaf 3 = .ok (.iload_n 1, 1) := by decide +kernel
theorem dX0_addLeaf_4 : decode cX0_addLeaf 4 = .ok (.iadd, 1) := by decide +kernel
theorem dX0_addLeaf_5 : decode cX0_addLeaf 5 = .ok (.iload_n 2, 1) := by decide +kernel
theorem dX0_addLeaf_6 : decode cX0_addLeaf 6 = .ok (.iconst 0, 1) := by decide +kernel
theorem dX0_addLeaf_7 : decode cX0_addLeaf 7 = .ok (.iconst 0, 1) := by decide +kernel
theorem dX0_addLeaf_8 : decode cX0_addLeaf 8 = .ok (.invokevirtual 35, 3) := by decide +kernel
theorem dX0_addLeaf_11 : decode cX0_addLeaf 11 = .ok (.ireturn, 1) := by decide +kernel
theorem dX0_addOperation_0 : decode cX0_addOperation 0 = .ok (.aload_n 0, 1) := by decide +kernel
theorem dX0_addOperation_1 : decode cX0_addOperation 1 = .ok (.iload_n 1, 1) := by decide +kernel
theorem dX0_addOperation_2 : decode cX0_addOperation 2 = .ok (.iload_n 2, 1) := by decide +kernel
theorem dX0_addOperation_3 : decode cX0_addOperation 3 = .ok (.iload_n 3, 1) := by decide +kernel
theorem dX0_addOperation_4 : decode cX0_addOperation 4 = .ok (.aload_n 0, 1) := by decide +kernel
theorem dX0_addOperation_5 : decode cX0_addOperation 5 = .ok (.getfield 21, 3) := by decide +kernel
theorem dX0_addOperation_8 : decode cX0_addOperation 8 = .ok (.iload_n 2, 1) := by decide +kernel
theorem dX0_addOperation_9 : decode cX0_addOperation 9 = .ok (.iaload, 1) := by decide +kernel
theorem dX0_addOperation_10 : decode cX0_addOperation 10 = .ok (.aload_n 0, 1) := by decide +kernel
theorem dX0_addOperation_11 : decode cX0_addOperation 11 = .ok (.getfield 21, 3) := by decide +kernel
theorem dX0_addOperation_14 : decode cX0_addOperation 14 = .ok (.iload_n 3, 1) := by decide +kernel
theorem dX0_addOperation_15 : decode cX0_addOperation 15 = .ok (.iaload, 1) := by decide +kernel
theorem dX0_addOperation_16 : decode cX0_addOperation 16 = .ok (.ior, 1) := by decide +kernel
theorem dX0_addOperation_17 : decode cX0_addOperation 17 = .ok (.invokevirtual 35, 3) := by decide +kernel
theorem dX0_addOperation_20 : decode cX0_addOperation 20 = .ok (.ireturn, 1) := by decide +kernel
theorem dX0_add_0 : decode cX0_add 0 = .ok (.aload_n 0, 1) := by decide +kernel
theorem dX0_add_1 : decode cX0_add 1 = .ok (.getfield 27, 3) := by decide +kernel
theorem dX0_add_4 : decode cX0_add 4 = .ok (.bipush 30, 2) := by decide +kernel
theorem dX0_add_6 : decode cX0_add 6 = .ok (.if_icmp .ne 5, 3) := by decide +kernel
theorem dX0_add_9 : decode cX0_add 9 = .ok (.iconst (-1), 1) := by decide +kernel
theorem dX0_add_10 : decode cX0_add 10 = .ok (.ireturn, 1) := by decide +kernel
theorem dX0_add_11 : decode cX0_add 11 = .ok (.aload_n 0, 1) := by decide +kernel
theorem dX0_add_12 : decode cX0_add 12 = .ok (.getfield 9, 3) := by decide +kernel
theorem dX0_add_15 : decode cX0_add 15 = .ok (.aload_n 0, 1) := by decide +kernel
theorem dX0_add_16 : decode cX0_add 16 = .ok (.getfield 27, 3) := by decide +kernel
theorem dX0_add_19 : decode cX0_add 19 = .ok (.iload_n 1, 1) := by decide +kernel
theorem dX0_add_20 : decode cX0_add 20 = .ok (.iastore, 1) := by decide +kernel
theorem dX0_add_21 : decode cX0_add 21 = .ok (.aload_n 0, 1) := by decide +kernel
theorem dX0_add_22 : decode cX0_add 22 = .ok (.getfield 15, 3) := by decide +kernel
theorem dX0_add_25 : decode cX0_add 25 = .ok (.aload_n 0, 1) := by decide +kernel
theorem dX0_add_26 : decode cX0_add 26 = .ok (.getfield 27, 3) := by decide +kernel
theorem dX0_add_29 : decode cX0_add 29 = .ok (.iload_n 2, 1) := by decide +kernel
theorem dX0_add_30 : decode cX0_add 30 = .ok (.iastore, 1) := by decide +kernel
theorem dX0_add_31 : decode cX0_add 31 = .ok (.aload_n 0, 1) := by decide +kernel
theorem dX0_add_32 : decode cX0_add 32 = .ok (.getfield 18, 3) := by decide +kernel
theorem dX0_add_35 : decode cX0_add 35 = .ok (.aload_n 0, 1) := by decide +kernel
theorem dX0_add_36 : decode cX0_add 36 = .ok (.getfield 27, 3) := by decide +kernel
theorem dX0_add_39 : decode cX0_add 39 = .ok (.iload_n 3, 1) := by decide +kernel
theorem dX0_add_40 : decode cX0_add 40 = .ok (.iastore, 1) := by decide +kernel
theorem dX0_add_41 : decode cX0_add 41 = .ok (.aload_n 0, 1) := by decide +kernel
theorem dX0_add_42 : decode cX0_add 42 = .ok (.getfield 21, 3) := by decide +kernel
theorem dX0_add_45 : decode cX0_add 45 = .ok (.aload_n 0, 1) := by decide +kernel
theorem dX0_add_46 : decode cX0_add 46 = .ok (.getfield 27, 3) := by decide +kernel
theorem dX0_add_49 : decode cX0_add 49 = .ok (.iload 4, 2) := by decide +kernel
theorem dX0_add_51 : decode cX0_add 51 = .ok (.iconst 1, 1) := by decide +kernel
theorem dX0_add_52 : decode cX0_add 52 = .ok (.aload_n 0, 1) := by decide +kernel
theorem dX0_add_53 : decode cX0_add 53 = .ok (.getfield 27, 3) := by decide +kernel
theorem dX0_add_56 : decode cX0_add 56 = .ok (.ishl, 1) := by decide +kernel
theorem dX0_add_57 : decode cX0_add 57 = .ok (.ior, 1) := by decide +kernel
theorem dX0_add_58 : decode cX0_add 58 = .ok (.iastore, 1) := by decide +kernel
theorem dX0_add_59 : decode cX0_add 59 = .ok (.aload_n 0, 1) := by decide +kernel
theorem dX0_add_60 : decode cX0_add 60 = .ok (.dup, 1) := by decide +kernel
theorem dX0_add_61 : decode cX0_add 61 = .ok (.getfield 27, 3) := by decide +kernel
theorem dX0_add_64 : decode cX0_add 64 = .ok (.iconst 1, 1) := by decide +kernel
theorem dX0_add_65 : decode cX0_add 65 = .ok (.iadd, 1) := by decide +kernel
theorem dX0_add_66 : decode cX0_add 66 = .ok (.putfield 27, 3) := by decide +kernel
theorem dX0_add_69 : decode cX0_add 69 = .ok (.aload_n 0, 1) := by decide +kernel
theorem dX0_add_70 : decode cX0_add 70 = .ok (.getfield 27, 3) := by decide +kernel
theorem dX0_add_73 : decode cX0_add 73 = .ok (.iconst 1, 1) := by decide +kernel
theorem dX0_add_74 : decode cX0_add 74 = .ok (.isub, 1) := by decide +kernel
theorem dX0_add_75 : decode cX0_add 75 = .ok (.ireturn, 1) := by decide +kernel
theorem dX0_valueOf_0 : decode cX0_valueOf 0 = .ok (.iconst 0, 1) := by decide +kernel
theorem dX0_valueOf_1 : decode cX0_valueOf 1 = .ok (.istore 4, 2) := by decide +kernel
theorem dX0_valueOf_3 : decode cX0_valueOf 3 = .ok (.iload 4, 2) := by decide +kernel
theorem dX0_valueOf_5 : decode cX0_valueOf 5 = .ok (.iload_n 1, 1) := by decide +kernel
theorem dX0_valueOf_6 : decode cX0_valueOf 6 = .ok (.if_icmp .gt 167, 3) := by decide +kernel
theorem dX0_valueOf_9 : decode cX0_valueOf 9 = .ok (.aload_n 0, 1) := by decide +kernel
theorem dX0_valueOf_10 : decode cX0_valueOf 10 = .ok (.getfield 21, 3) := by decide +kernel
theorem dX0_valueOf_13 : decode cX0_valueOf 13 = .ok (.iload_n 1, 1) := by decide +kernel
theorem dX0_valueOf_14 : decode cX0_valueOf 14 = .ok (.iaload, 1) := by decide +kernel
theorem dX0_valueOf_15 : decode cX0_valueOf 15 = .ok (.iload 4, 2) := by decide +kernel
theorem dX0_valueOf_17 : decode cX0_valueOf 17 = .ok (.ishr, 1) := by decide +kernel
theorem dX0_valueOf_18 : decode cX0_valueOf 18 = .ok (.iconst 1, 1) := by decide +kernel
theorem dX0_valueOf_19 : decode cX0_valueOf 19 = .ok (.iand, 1) := by decide +kernel
theorem dX0_valueOf_20 : decode cX0_valueOf 20 = .ok (.ifCond .ne 6, 3) := by decide +kernel
theorem dX0_valueOf_23 : decode cX0_valueOf 23 = .ok (.goto 144, 3) := by decide +kernel
theorem dX0_valueOf_26 : decode cX0_valueOf 26 = .ok (.aload_n 0, 1) := by decide +kernel
theorem dX0_valueOf_27 : decode cX0_valueOf 27 = .ok (.getfield 9, 3) := by decide +kernel
theorem dX0_valueOf_30 : decode cX0_valueOf 30 = .ok (.iload 4, 2) := by decide +kernel
theorem dX0_valueOf_32 : decode cX0_valueOf 32 = .ok (.iaload, 1) := by decide +kernel
theorem dX0_valueOf_33 : decode cX0_valueOf 33 = .ok (.bipush 9, 2) := by decide +kernel
theorem dX0_valueOf_35 : decode cX0_valueOf 35 = .ok (.if_icmp .lt 32, 3) := by decide +kernel
theorem dX0_valueOf_38 : decode cX0_valueOf 38 = .ok (.aload_n 0, 1) := by decide +kernel
theorem dX0_valueOf_39 : decode cX0_valueOf 39 = .ok (.getfield 24, 3) := by decide +kernel
theorem dX0_valueOf_42 : decode cX0_valueOf 42 = .ok (.iload 4, 2) := by decide +kernel
theorem dX0_valueOf_44 : decode cX0_valueOf 44 = .ok (.aload_n 0, 1) := by decide +kernel
theorem dX0_valueOf_45 : decode cX0_valueOf 45 = .ok (.getfield 9, 3) := by decide +kernel
theorem dX0_valueOf_48 : decode cX0_valueOf 48 = .ok (.iload 4, 2) := by decide +kernel
theorem dX0_valueOf_50 : decode cX0_valueOf 50 = .ok (.iaload, 1) := by decide +kernel
theorem dX0_valueOf_51 : decode cX0_valueOf 51 = .ok (.aload_n 0, 1) := by decide +kernel
theorem dX0_valueOf_52 : decode cX0_valueOf 52 = .ok (.getfield 15, 3) := by decide +kernel
theorem dX0_valueOf_55 : decode cX0_valueOf 55 = .ok (.iload 4, 2) := by decide +kernel
theorem dX0_valueOf_57 : decode cX0_valueOf 57 = .ok (.iaload, 1) := by decide +kernel
theorem dX0_valueOf_58 : decode cX0_valueOf 58 = .ok (.aload_n 2, 1) := by decide +kernel
theorem dX0_valueOf_59 : decode cX0_valueOf 59 = .ok (.iload_n 3, 1) := by decide +kernel
theorem dX0_valueOf_60 : decode cX0_valueOf 60 = .ok (.invokestatic 39, 3) := by decide +kernel
theorem dX0_valueOf_63 : decode cX0_valueOf 63 = .ok (.iastore, 1) := by decide +kernel
theorem dX0_valueOf_64 : decode cX0_valueOf 64 = .ok (.goto 103, 3) := by decide +kernel
theorem dX0_valueOf_67 : decode cX0_valueOf 67 = .ok (.aload_n 0, 1) := by decide +kernel
theorem dX0_valueOf_68 : decode cX0_valueOf 68 = .ok (.getfield 9, 3) := by decide +kernel
theorem dX0_valueOf_71 : decode cX0_valueOf 71 = .ok (.iload 4, 2) := by decide +kernel
theorem dX0_valueOf_73 : decode cX0_valueOf 73 = .ok (.iaload, 1) := by decide +kernel
theorem dX0_valueOf_74 : decode cX0_valueOf 74 = .ok (.bipush 6, 2) := by decide +kernel
theorem dX0_valueOf_76 : decode cX0_valueOf 76 = .ok (.if_icmp .lt 47, 3) := by decide +kernel
theorem dX0_valueOf_79 : decode cX0_valueOf 79 = .ok (.aload_n 0, 1) := by decide +kernel
theorem dX0_valueOf_80 : decode cX0_valueOf 80 = .ok (.getfield 24, 3) := by decide +kernel
theorem dX0_valueOf_83 : decode cX0_valueOf 83 = .ok (.iload 4, 2) := by decide +kernel
theorem dX0_valueOf_85 : decode cX0_valueOf 85 = .ok (.aload_n 0, 1) := by decide +kernel
theorem dX0_valueOf_86 : decode cX0_valueOf 86 = .ok (.getfield 9, 3) := by decide +kernel
theorem dX0_valueOf_89 : decode cX0_valueOf 89 = .ok (.iload 4, 2) := by decide +kernel
theorem dX0_valueOf_91 : decode cX0_valueOf 91 = .ok (.iaload, 1) := by decide +kernel
theorem dX0_valueOf_92 : decode cX0_valueOf 92 = .ok (.aload_n 0, 1) := by decide +kernel
theorem dX0_valueOf_93 : decode cX0_valueOf 93 = .ok (.getfield 24, 3) := by decide +kernel
theorem dX0_valueOf_96 : decode cX0_valueOf 96 = .ok (.aload_n 0, 1) := by decide +kernel
theorem dX0_valueOf_97 : decode cX0_valueOf 97 = .ok (.getfield 15, 3) := by decide +kernel
theorem dX0_valueOf_100 : decode cX0_valueOf 100 = .ok (.iload 4, 2) := by decide +kernel
theorem dX0_valueOf_102 : decode cX0_valueOf 102 = .ok (.iaload, 1) := by decide +kernel
theorem dX0_valueOf_103 : decode cX0_valueOf 103 = .ok (.iaload, 1) := by decide +kernel
theorem dX0_valueOf_104 : decode cX0_valueOf 104 = .ok (.aload_n 0, 1) := by decide +kernel
theorem dX0_valueOf_105 : decode cX0_valueOf 105 = .ok (.getfield 24, 3) := by decide +kernel
theorem dX0_valueOf_108 : decode cX0_valueOf 108 = .ok (.aload_n 0, 1) := by decide +kernel
theorem dX0_valueOf_109 : decode cX0_valueOf 109 = .ok (.getfield 18, 3) := by decide +kernel
theorem dX0_valueOf_112 : decode cX0_valueOf 112 = .ok (.iload 4, 2) := by decide +kernel
theorem dX0_valueOf_114 : decode cX0_valueOf 114 = .ok (.iaload, 1) := by decide +kernel
theorem dX0_valueOf_115 : decode cX0_valueOf 115 = .ok (.iaload, 1) := by decide +kernel
theorem dX0_valueOf_116 : decode cX0_valueOf 116 = .ok (.invokestatic 43, 3) := by decide +kernel
theorem dX0_valueOf_119 : decode cX0_valueOf 119 = .ok (.iastore, 1) := by decide +kernel
theorem dX0_valueOf_120 : decode cX0_valueOf 120 = .ok (.goto 47, 3) := by decide +kernel
theorem dX0_valueOf_123 : decode cX0_valueOf 123 = .ok (.aload_n 0, 1) := by decide +kernel
theorem dX0_valueOf_124 : decode cX0_valueOf 124 = .ok (.getfield 24, 3) := by decide +kernel
theorem dX0_valueOf_127 : decode cX0_valueOf 127 = .ok (.iload 4, 2) := by decide +kernel
theorem dX0_valueOf_129 : decode cX0_valueOf 129 = .ok (.aload_n 0, 1) := by decide +kernel
theorem dX0_valueOf_130 : decode cX0_valueOf 130 = .ok (.getfield 9, 3) := by decide +kernel
theorem dX0_valueOf_133 : decode cX0_valueOf 133 = .ok (.iload 4, 2) := by decide +kernel
theorem dX0_valueOf_135 : decode cX0_valueOf 135 = .ok (.iaload, 1) := by decide +kernel
theorem dX0_valueOf_136 : decode cX0_valueOf 136 = .ok (.aload_n 0, 1) := by decide +kernel
theorem dX0_valueOf_137 : decode cX0_valueOf 137 = .ok (.getfield 24, 3) := by decide +kernel
theorem dX0_valueOf_140 : decode cX0_valueOf 140 = .ok (.aload_n 0, 1) := by decide +kernel
theorem dX0_valueOf_141 : decode cX0_valueOf 141 = .ok (.getfield 15, 3) := by decide +kernel
theorem dX0_valueOf_144 : decode cX0_valueOf 144 = .ok (.iload 4, 2) := by decide +kernel
theorem dX0_valueOf_146 : decode cX0_valueOf 146 = .ok (.iaload, 1) := by decide +kernel
theorem dX0_valueOf_147 : decode cX0_valueOf 147 = .ok (.iaload, 1) := by decide +kernel
theorem dX0_valueOf_148 : decode cX0_valueOf 148 = .ok (.aload_n 0, 1) := by decide +kernel
theorem dX0_valueOf_149 : decode cX0_valueOf 149 = .ok (.getfield 24, 3) := by decide +kernel
theorem dX0_valueOf_152 : decode cX0_valueOf 152 = .ok (.aload_n 0, 1) := by decide +kernel
theorem dX0_valueOf_153 : decode cX0_valueOf 153 = .ok (.getfield 18, 3) := by decide +kernel
theorem dX0_valueOf_156 : decode cX0_valueOf 156 = .ok (.iload 4, 2) := by decide +kernel
theorem dX0_valueOf_158 : decode cX0_valueOf 158 = .ok (.iaload, 1) := by decide +kernel
theorem dX0_valueOf_159 : decode cX0_valueOf 159 = .ok (.iaload, 1) := by decide +kernel
theorem dX0_valueOf_160 : decode cX0_valueOf 160 = .ok (.invokestatic 47, 3) := by decide +kernel
theorem dX0_valueOf_163 : decode cX0_valueOf 163 = .ok (.invokestatic 51, 3) := by decide +kernel
theorem dX0_valueOf_166 : decode cX0_valueOf 166 = .ok (.iastore, 1) := by decide +kernel
theorem dX0_valueOf_167 : decode cX0_valueOf 167 = .ok (.iinc 4 1, 3) := by decide +kernel
theorem dX0_valueOf_170 : decode cX0_valueOf 170 = .ok (.goto (-167), 3) := by decide +kernel
theorem dX0_valueOf_173 : decode cX0_valueOf 173 = .ok (.aload_n 0, 1) := by decide +kernel
theorem dX0_valueOf_174 : decode cX0_valueOf 174 = .ok (.getfield 24, 3) := by decide +kernel
theorem dX0_valueOf_177 : decode cX0_valueOf 177 = .ok (.iload_n 1, 1) := by decide +kernel
theorem dX0_valueOf_178 : decode cX0_valueOf 178 = .ok (.iaload, 1) := by decide +kernel
theorem dX0_valueOf_179 : decode cX0_valueOf 179 = .ok (.ireturn, 1) := by decide +kernel
theorem dX0_leafValue_0 : decode cX0_leafValue 0 = .ok (.iload_n 0, 1) := by decide +kernel
theorem dX0_leafValue_1 : decode cX0_leafValue 1 = .ok (.bipush 9, 2) := by decide +kernel
theorem dX0_leafValue_3 : decode cX0_leafValue 3 = .ok (.if_icmp .ne 5, 3) := by decide +kernel
theorem dX0_leafValue_6 : decode cX0_leafValue 6 = .ok (.iload_n 1, 1) := by decide +kernel
theorem dX0_leafValue_7 : decode cX0_leafValue 7 = .ok (.ireturn, 1) := by decide +kernel
theorem dX0_leafValue_8 : decode cX0_leafValue 8 = .ok (.aload_n 2, 1) := by decide +kernel
theorem dX0_leafValue_9 : decode cX0_leafValue 9 = .ok (.iload_n 3, 1) := by decide +kernel
theorem dX0_leafValue_10 : decode cX0_leafValue 10 = .ok (.iload_n 1, 1) := by decide +kernel
theorem dX0_leafValue_11 : decode cX0_leafValue 11 = .ok (.invokevirtual 55, 3) := by decide +kernel
theorem dX0_leafValue_14 : decode cX0_leafValue 14 = .ok (.istore 4, 2) := by decide +kernel
theorem dX0_leafValue_16 : decode cX0_leafValue 16 = .ok (.iload_n 0, 1) := by decide +kernel
theorem dX0_leafValue_17 : decode cX0_leafValue 17 = .ok (.bipush 10, 2) := by decide +kernel
theorem dX0_leafValue_19 : decode cX0_leafValue 19 = .ok (.if_icmp .ne 6, 3) := by decide +kernel
theorem dX0_leafValue_22 : decode cX0_leafValue 22 = .ok (.iload 4, 2) := by decide +kernel
theorem dX0_leafValue_24 : decode cX0_leafValue 24 = .ok (.ireturn, 1) := by decide +kernel
theorem dX0_leafValue_25 : decode cX0_leafValue 25 = .ok (.iload 4, 2) := by decide +kernel
theorem dX0_leafValue_27 : decode cX0_leafValue 27 = .ok (.ldc 61, 2) := by decide +kernel
theorem dX0_leafValue_29 : decode cX0_leafValue 29 = .ok (.if_icmp .ne 7, 3) := by decide +kernel
theorem dX0_leafValue_32 : decode cX0_leafValue 32 = .ok (.iconst 0, 1) := by decide +kernel
theorem dX0_leafValue_33 : decode cX0_leafValue 33 = .ok (.goto 4, 3) := by decide +kernel
theorem dX0_leafValue_36 : decode cX0_leafValue 36 = .ok (.iconst 1, 1) := by decide +kernel
theorem dX0_leafValue_37 : decode cX0_leafValue 37 = .ok (.ireturn, 1) := by decide +kernel
theorem dX0_logicValue_0 : decode cX0_logicValue 0 = .ok (.iload_n 0, 1) := by decide +kernel
theorem dX0_logicValue_1 : decode cX0_logicValue 1 = .ok (.bipush 6, 2) := by decide +kernel
theorem dX0_logicValue_3 : decode cX0_logicValue 3 = .ok (.if_icmp .ne 13, 3) := by decide +kernel
theorem dX0_logicValue_6 : decode cX0_logicValue 6 = .ok (.iload_n 1, 1) := by decide +kernel
theorem dX0_logicValue_7 : decode cX0_logicValue 7 = .ok (.ifCond .eq 7, 3) := by decide +kernel
theorem dX0_logicValue_10 : decode cX0_logicValue 10 = .ok (.iload_n 2, 1) := by decide +kernel
theorem dX0_logicValue_11 : decode cX0_logicValue 11 = .ok (.ifCond .ne 5, 3) := by decide +kernel
theorem dX0_logicValue_14 : decode cX0_logicValue 14 = .ok (.iconst 0, 1) := by decide +kernel
theorem dX0_logicValue_15 : decode cX0_logicValue 15 = .ok (.ireturn, 1) := by decide +kernel
theorem dX0_logicValue_16 : decode cX0_logicValue 16 = .ok (.iload_n 0, 1) := by decide +kernel
theorem dX0_logicValue_17 : decode cX0_logicValue 17 = .ok (.bipush 7, 2) := by decide +kernel
theorem dX0_logicValue_19 : decode cX0_logicValue 19 = .ok (.if_icmp .ne 19, 3) := by decide +kernel
theorem dX0_logicValue_22 : decode cX0_logicValue 22 = .ok (.iload_n 1, 1) := by decide +kernel
theorem dX0_logicValue_23 : decode cX0_logicValue 23 = .ok (.invokestatic 62, 3) := by decide +kernel
theorem dX0_logicValue_26 : decode cX0_logicValue 26 = .ok (.ifCond .ne 10, 3) := by decide +kernel
theorem dX0_logicValue_29 : decode cX0_logicValue 29 = .ok (.iload_n 2, 1) := by decide +kernel
theorem dX0_logicValue_30 : decode cX0_logicValue 30 = .ok (.invokestatic 62, 3) := by decide +kernel
theorem dX0_logicValue_33 : decode cX0_logicValue 33 = .ok (.ifCond .eq 5, 3) := by decide +kernel
theorem dX0_logicValue_36 : decode cX0_logicValue 36 = .ok (.iconst 1, 1) := by decide +kernel
theorem dX0_logicValue_37 : decode cX0_logicValue 37 = .ok (.ireturn, 1) := by decide +kernel
theorem dX0_logicValue_38 : decode cX0_logicValue 38 = .ok (.iload_n 1, 1) := by decide +kernel
theorem dX0_logicValue_39 : decode cX0_logicValue 39 = .ok (.ldc 61, 2) := by decide +kernel
theorem dX0_logicValue_41 : decode cX0_logicValue 41 = .ok (.if_icmp .eq 9, 3) := by decide +kernel
theorem dX0_logicValue_44 : decode cX0_logicValue 44 = .ok (.iload_n 2, 1) := by decide +kernel
theorem dX0_logicValue_45 : decode cX0_logicValue 45 = .ok (.ldc 61, 2) := by decide +kernel
theorem dX0_logicValue_47 : decode cX0_logicValue 47 = .ok (.if_icmp .ne 6, 3) := by decide +kernel
theorem dX0_logicValue_50 : decode cX0_logicValue 50 = .ok (.ldc 61, 2) := by decide +kernel
theorem dX0_logicValue_52 : decode cX0_logicValue 52 = .ok (.ireturn, 1) := by decide +kernel
theorem dX0_logicValue_53 : decode cX0_logicValue 53 = .ok (.iload_n 0, 1) := by decide +kernel
theorem dX0_logicValue_54 : decode cX0_logicValue 54 = .ok (.bipush 8, 2) := by decide +kernel
theorem dX0_logicValue_56 : decode cX0_logicValue 56 = .ok (.if_icmp .ne 13, 3) := by decide +kernel
theorem dX0_logicValue_59 : decode cX0_logicValue 59 = .ok (.iload_n 1, 1) := by decide +kernel
theorem dX0_logicValue_60 : decode cX0_logicValue 60 = .ok (.ifCond .ne 7, 3) := by decide +kernel
theorem dX0_logicValue_63 : decode cX0_logicValue 63 = .ok (.iconst 1, 1) := by decide +kernel
theorem dX0_logicValue_64 : decode cX0_logicValue 64 = .ok (.goto 4, 3) := by decide +kernel
theorem dX0_logicValue_67 : decode cX0_logicValue 67 = .ok (.iconst 0, 1) := by decide +kernel
theorem dX0_logicValue_68 : decode cX0_logicValue 68 = .ok (.ireturn, 1) := by decide +kernel
theorem dX0_logicValue_69 : decode cX0_logicValue 69 = .ok (.iload_n 0, 1) := by decide +kernel
theorem dX0_logicValue_70 : decode cX0_logicValue 70 = .ok (.bipush 6, 2) := by decide +kernel
theorem dX0_logicValue_72 : decode cX0_logicValue 72 = .ok (.if_icmp .ne 7, 3) := by decide +kernel
theorem dX0_logicValue_75 : decode cX0_logicValue 75 = .ok (.iconst 1, 1) := by decide +kernel
theorem dX0_logicValue_76 : decode cX0_logicValue 76 = .ok (.goto 4, 3) := by decide +kernel
theorem dX0_logicValue_79 : decode cX0_logicValue 79 = .ok (.iconst 0, 1) := by decide +kernel
theorem dX0_logicValue_80 : decode cX0_logicValue 80 = .ok (.ireturn, 1) := by decide +kernel
theorem dX0_number_0 : decode cX0_number 0 = .ok (.iload_n 1, 1) := by decide +kernel
theorem dX0_number_1 : decode cX0_number 1 = .ok (.ldc 61, 2) := by decide +kernel
theorem dX0_number_3 : decode cX0_number 3 = .ok (.if_icmp .eq 9, 3) := by decide +kernel
theorem dX0_number_6 : decode cX0_number 6 = .ok (.iload_n 2, 1) := by decide +kernel
theorem dX0_number_7 : decode cX0_number 7 = .ok (.ldc 61, 2) := by decide +kernel
theorem dX0_number_9 : decode cX0_number 9 = .ok (.if_icmp .ne 7, 3) := by decide +kernel
theorem dX0_number_12 : decode cX0_number 12 = .ok (.ldc2_w 66, 3) := by decide +kernel
theorem dX0_number_15 : decode cX0_number 15 = .ok (.lreturn, 1) := by decide +kernel
theorem dX0_number_16 : decode cX0_number 16 = .ok (.iload_n 0, 1) := by decide +kernel
theorem dX0_number_17 : decode cX0_number 17 = .ok (.tableswitch 79 0 4 #[35, 41, 47, 53, 68], 35) := by decide +kernel
theorem dX0_number_52 : decode cX0_number 52 = .ok (.iload_n 1, 1) := by decide +kernel
theorem dX0_number_53 : decode cX0_number 53 = .ok (.i2l, 1) := by decide +kernel
theorem dX0_number_54 : decode cX0_number 54 = .ok (.iload_n 2, 1) := by decide +kernel
theorem dX0_number_55 : decode cX0_number 55 = .ok (.i2l, 1) := by decide +kernel
theorem dX0_number_56 : decode cX0_number 56 = .ok (.ladd, 1) := by decide +kernel
theorem dX0_number_57 : decode cX0_number 57 = .ok (.lreturn, 1) := by decide +kernel
theorem dX0_number_58 : decode cX0_number 58 = .ok (.iload_n 1, 1) := by decide +kernel
theorem dX0_number_59 : decode cX0_number 59 = .ok (.i2l, 1) := by decide +kernel
theorem dX0_number_60 : decode cX0_number 60 = .ok (.iload_n 2, 1) := by decide +kernel
theorem dX0_number_61 : decode cX0_number 61 = .ok (.i2l, 1) := by decide +kernel
theorem dX0_number_62 : decode cX0_number 62 = .ok (.lsub, 1) := by decide +kernel
theorem dX0_number_63 : decode cX0_number 63 = .ok (.lreturn, 1) := by decide +kernel
theorem dX0_number_64 : decode cX0_number 64 = .ok (.iload_n 1, 1) := by decide +kernel
theorem dX0_number_65 : decode cX0_number 65 = .ok (.i2l, 1) := by decide +kernel
theorem dX0_number_66 : decode cX0_number 66 = .ok (.iload_n 2, 1) := by decide +kernel
theorem dX0_number_67 : decode cX0_number 67 = .ok (.i2l, 1) := by decide +kernel
theorem dX0_number_68 : decode cX0_number 68 = .ok (.lmul, 1) := by decide +kernel
theorem dX0_number_69 : decode cX0_number 69 = .ok (.lreturn, 1) := by decide +kernel
theorem dX0_number_70 : decode cX0_number 70 = .ok (.iload_n 2, 1) := by decide +kernel
theorem dX0_number_71 : decode cX0_number 71 = .ok (.ifCond .ne 9, 3) := by decide +kernel
theorem dX0_number_74 : decode cX0_number 74 = .ok (.ldc2_w 66, 3) := by decide +kernel
theorem dX0_number_77 : decode cX0_number 77 = .ok (.goto 7, 3) := by decide +kernel
theorem dX0_number_80 : decode cX0_number 80 = .ok (.iload_n 1, 1) := by decide +kernel
theorem dX0_number_81 : decode cX0_number 81 = .ok (.iload_n 2, 1) := by decide +kernel
theorem dX0_number_82 : decode cX0_number 82 = .ok (.idiv, 1) := by decide +kernel
theorem dX0_number_83 : decode cX0_number 83 = .ok (.i2l, 1) := by decide +kernel
theorem dX0_number_84 : decode cX0_number 84 = .ok (.lreturn, 1) := by decide +kernel
theorem dX0_number_85 : decode cX0_number 85 = .ok (.iload_n 1, 1) := by decide +kernel
theorem dX0_number_86 : decode cX0_number 86 = .ok (.iload_n 2, 1) := by decide +kernel
theorem dX0_number_87 : decode cX0_number 87 = .ok (.if_icmp .ge 7, 3) := by decide +kernel
theorem dX0_number_90 : decode cX0_number 90 = .ok (.lconst 1, 1) := by decide +kernel
theorem dX0_number_91 : decode cX0_number 91 = .ok (.goto 4, 3) := by decide +kernel
theorem dX0_number_94 : decode cX0_number 94 = .ok (.lconst 0, 1) := by decide +kernel
theorem dX0_number_95 : decode cX0_number 95 = .ok (.lreturn, 1) := by decide +kernel
theorem dX0_number_96 : decode cX0_number 96 = .ok (.iload_n 1, 1) := by decide +kernel
theorem dX0_number_97 : decode cX0_number 97 = .ok (.iload_n 2, 1) := by decide +kernel
theorem dX0_number_98 : decode cX0_number 98 = .ok (.if_icmp .ne 7, 3) := by decide +kernel
theorem dX0_number_101 : decode cX0_number 101 = .ok (.lconst 1, 1) := by decide +kernel
theorem dX0_number_102 : decode cX0_number 102 = .ok (.goto 4, 3) := by decide +kernel
theorem dX0_number_105 : decode cX0_number 105 = .ok (.lconst 0, 1) := by decide +kernel
theorem dX0_number_106 : decode cX0_number 106 = .ok (.lreturn, 1) := by decide +kernel
