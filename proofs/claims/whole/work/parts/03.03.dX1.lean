theorem dX1_makeSlice_13 : decode cX1_makeSlice 13 = .ok (.iload_n 3, 1) := by decide +kernel
theorem dX1_makeSlice_14 : decode cX1_makeSlice 14 = .ok (.aload_n 0, 1) := by decide +kernel
theorem dX1_makeSlice_15 : decode cX1_makeSlice 15 = .ok (.getfield 228, 3) := by decide +kernel
theorem dX1_makeSlice_18 : decode cX1_makeSlice 18 = .ok (.aload_n 0, 1) := by decide +kernel
theorem dX1_makeSlice_19 : decode cX1_makeSlice 19 = .ok (.getfield 231, 3) := by decide +kernel
theorem dX1_makeSlice_22 : decode cX1_makeSlice 22 = .ok (.iadd, 1) := by decide +kernel
theorem dX1_makeSlice_23 : decode cX1_makeSlice 23 = .ok (.if_icmp .ge 15, 3) := by decide +kernel
theorem dX1_makeSlice_26 : decode cX1_makeSlice 26 = .ok (.aload_n 2, 1) := by decide +kernel
theorem dX1_makeSlice_27 : decode cX1_makeSlice 27 = .ok (.aload_n 1, 1) := by decide +kernel
theorem dX1_makeSlice_28 : decode cX1_makeSlice 28 = .ok (.iload_n 3, 1) := by decide +kernel
theorem dX1_makeSlice_29 : decode cX1_makeSlice 29 = .ok (.invokevirtual 206, 3) := by decide +kernel
theorem dX1_makeSlice_32 : decode cX1_makeSlice 32 = .ok (.iinc 3 1, 3) := by decide +kernel
theorem dX1_makeSlice_35 : decode cX1_makeSlice 35 = .ok (.goto (-30), 3) := by decide +kernel
theorem dX1_makeSlice_38 : decode cX1_makeSlice 38 = .ok (.return_, 1) := by decide +kernel
theorem dX1_makeKeys_0 : decode cX1_makeKeys 0 = .ok (.iconst 0, 1) := by decide +kernel
theorem dX1_makeKeys_1 : decode cX1_makeKeys 1 = .ok (.istore_n 3, 1) := by decide +kernel
theorem dX1_makeKeys_2 : decode cX1_makeKeys 2 = .ok (.iload_n 3, 1) := by decide +kernel
theorem dX1_makeKeys_3 : decode cX1_makeKeys 3 = .ok (.aload_n 2, 1) := by decide +kernel
theorem dX1_makeKeys_4 : decode cX1_makeKeys 4 = .ok (.getfield 186, 3) := by decide +kernel
theorem dX1_makeKeys_7 : decode cX1_makeKeys 7 = .ok (.if_icmp .ge 28, 3) := by decide +kernel
theorem dX1_makeKeys_10 : decode cX1_makeKeys 10 = .ok (.aload_n 0, 1) := by decide +kernel
theorem dX1_makeKeys_11 : decode cX1_makeKeys 11 = .ok (.getfield 42, 3) := by decide +kernel
theorem dX1_makeKeys_14 : decode cX1_makeKeys 14 = .ok (.iload_n 3, 1) := by decide +kernel
theorem dX1_makeKeys_15 : decode cX1_makeKeys 15 = .ok (.aload_n 0, 1) := by decide +kernel
theorem dX1_makeKeys_16 : decode cX1_makeKeys 16 = .ok (.getfield 21, 3) := by decide +kernel
theorem dX1_makeKeys_19 : decode cX1_makeKeys 19 = .ok (.aload_n 1, 1) := by decide +kernel
theorem dX1_makeKeys_20 : decode cX1_makeKeys 20 = .ok (.getfield 213, 3) := by decide +kernel
theorem dX1_makeKeys_23 : decode cX1_makeKeys 23 = .ok (.aload_n 2, 1) := by decide +kernel
theorem dX1_makeKeys_24 : decode cX1_makeKeys 24 = .ok (.iload_n 3, 1) := by decide +kernel
theorem dX1_makeKeys_25 : decode cX1_makeKeys 25 = .ok (.invokevirtual 216, 3) := by decide +kernel
theorem dX1_makeKeys_28 : decode cX1_makeKeys 28 = .ok (.iastore, 1) := by decide +kernel
theorem dX1_makeKeys_29 : decode cX1_makeKeys 29 = .ok (.iinc 3 1, 3) := by decide +kernel
theorem dX1_makeKeys_32 : decode cX1_makeKeys 32 = .ok (.goto (-30), 3) := by decide +kernel
theorem dX1_makeKeys_35 : decode cX1_makeKeys 35 = .ok (.return_, 1) := by decide +kernel
theorem dX1_makeOrder_0 : decode cX1_makeOrder 0 = .ok (.iconst 0, 1) := by decide +kernel
theorem dX1_makeOrder_1 : decode cX1_makeOrder 1 = .ok (.istore 4, 2) := by decide +kernel
theorem dX1_makeOrder_3 : decode cX1_makeOrder 3 = .ok (.iload 4, 2) := by decide +kernel
theorem dX1_makeOrder_5 : decode cX1_makeOrder 5 = .ok (.aload_n 2, 1) := by decide +kernel
theorem dX1_makeOrder_6 : decode cX1_makeOrder 6 = .ok (.getfield 186, 3) := by decide +kernel
theorem dX1_makeOrder_9 : decode cX1_makeOrder 9 = .ok (.if_icmp .ge 80, 3) := by decide +kernel
theorem dX1_makeOrder_12 : decode cX1_makeOrder 12 = .ok (.iload 4, 2) := by decide +kernel
theorem dX1_makeOrder_14 : decode cX1_makeOrder 14 = .ok (.istore 5, 2) := by decide +kernel
theorem dX1_makeOrder_16 : decode cX1_makeOrder 16 = .ok (.iload 5, 2) := by decide +kernel
theorem dX1_makeOrder_18 : decode cX1_makeOrder 18 = .ok (.ifCond .le 56, 3) := by decide +kernel
theorem dX1_makeOrder_21 : decode cX1_makeOrder 21 = .ok (.aload_n 0, 1) := by decide +kernel
theorem dX1_makeOrder_22 : decode cX1_makeOrder 22 = .ok (.getfield 42, 3) := by decide +kernel
theorem dX1_makeOrder_25 : decode cX1_makeOrder 25 = .ok (.iload 4, 2) := by decide +kernel
theorem dX1_makeOrder_27 : decode cX1_makeOrder 27 = .ok (.iaload, 1) := by decide +kernel
theorem dX1_makeOrder_28 : decode cX1_makeOrder 28 = .ok (.aload_n 0, 1) := by decide +kernel
theorem dX1_makeOrder_29 : decode cX1_makeOrder 29 = .ok (.getfield 42, 3) := by decide +kernel
theorem dX1_makeOrder_32 : decode cX1_makeOrder 32 = .ok (.aload_n 0, 1) := by decide +kernel
theorem dX1_makeOrder_33 : decode cX1_makeOrder 33 = .ok (.getfield 45, 3) := by decide +kernel
theorem dX1_makeOrder_36 : decode cX1_makeOrder 36 = .ok (.iload 5, 2) := by decide +kernel
theorem dX1_makeOrder_38 : decode cX1_makeOrder 38 = .ok (.iconst 1, 1) := by decide +kernel
theorem dX1_makeOrder_39 : decode cX1_makeOrder 39 = .ok (.isub, 1) := by decide +kernel
theorem dX1_makeOrder_40 : decode cX1_makeOrder 40 = .ok (.iaload, 1) := by decide +kernel
theorem dX1_makeOrder_41 : decode cX1_makeOrder 41 = .ok (.iaload, 1) := by decide +kernel
theorem dX1_makeOrder_42 : decode cX1_makeOrder 42 = .ok (.aload_n 1, 1) := by decide +kernel
theorem dX1_makeOrder_43 : decode cX1_makeOrder 43 = .ok (.getfield 234, 3) := by decide +kernel
theorem dX1_makeOrder_46 : decode cX1_makeOrder 46 = .ok (.invokestatic 237, 3) := by decide +kernel
theorem dX1_makeOrder_49 : decode cX1_makeOrder 49 = .ok (.ifCond .eq 25, 3) := by decide +kernel
theorem dX1_makeOrder_52 : decode cX1_makeOrder 52 = .ok (.aload_n 0, 1) := by decide +kernel
theorem dX1_makeOrder_53 : decode cX1_makeOrder 53 = .ok (.getfield 45, 3) := by decide +kernel
theorem dX1_makeOrder_56 : decode cX1_makeOrder 56 = .ok (.iload 5, 2) := by decide +kernel
theorem dX1_makeOrder_58 : decode cX1_makeOrder 58 = .ok (.aload_n 0, 1) := by decide +kernel
theorem dX1_makeOrder_59 : decode cX1_makeOrder 59 = .ok (.getfield 45, 3) := by decide +kernel
theorem dX1_makeOrder_62 : decode cX1_makeOrder 62 = .ok (.iload 5, 2) := by decide +kernel
theorem dX1_makeOrder_64 : decode cX1_makeOrder 64 = .ok (.iconst 1, 1) := by decide +kernel
theorem dX1_makeOrder_65 : decode cX1_makeOrder 65 = .ok (.isub, 1) := by decide +kernel
theorem dX1_makeOrder_66 : decode cX1_makeOrder 66 = .ok (.iaload, 1) := by decide +kernel
theorem dX1_makeOrder_67 : decode cX1_makeOrder 67 = .ok (.iastore, 1) := by decide +kernel
theorem dX1_makeOrder_68 : decode cX1_makeOrder 68 = .ok (.iinc 5 (-1), 3) := by decide +kernel
theorem dX1_makeOrder_71 : decode cX1_makeOrder 71 = .ok (.goto (-55), 3) := by decide +kernel
theorem dX1_makeOrder_74 : decode cX1_makeOrder 74 = .ok (.aload_n 0, 1) := by decide +kernel
theorem dX1_makeOrder_75 : decode cX1_makeOrder 75 = .ok (.getfield 45, 3) := by decide +kernel
theorem dX1_makeOrder_78 : decode cX1_makeOrder 78 = .ok (.iload 5, 2) := by decide +kernel
theorem dX1_makeOrder_80 : decode cX1_makeOrder 80 = .ok (.iload 4, 2) := by decide +kernel
theorem dX1_makeOrder_82 : decode cX1_makeOrder 82 = .ok (.iastore, 1) := by decide +kernel
theorem dX1_makeOrder_83 : decode cX1_makeOrder 83 = .ok (.iinc 4 1, 3) := by decide +kernel
theorem dX1_makeOrder_86 : decode cX1_makeOrder 86 = .ok (.goto (-83), 3) := by decide +kernel
theorem dX1_makeOrder_89 : decode cX1_makeOrder 89 = .ok (.iconst 0, 1) := by decide +kernel
theorem dX1_makeOrder_90 : decode cX1_makeOrder 90 = .ok (.istore 4, 2) := by decide +kernel
theorem dX1_makeOrder_92 : decode cX1_makeOrder 92 = .ok (.iload 4, 2) := by decide +kernel
theorem dX1_makeOrder_94 : decode cX1_makeOrder 94 = .ok (.aload_n 2, 1) := by decide +kernel
theorem dX1_makeOrder_95 : decode cX1_makeOrder 95 = .ok (.getfield 186, 3) := by decide +kernel
theorem dX1_makeOrder_98 : decode cX1_makeOrder 98 = .ok (.if_icmp .ge 21, 3) := by decide +kernel
theorem dX1_makeOrder_101 : decode cX1_makeOrder 101 = .ok (.aload_n 3, 1) := by decide +kernel
theorem dX1_makeOrder_102 : decode cX1_makeOrder 102 = .ok (.aload_n 2, 1) := by decide +kernel
theorem dX1_makeOrder_103 : decode cX1_makeOrder 103 = .ok (.aload_n 0, 1) := by decide +kernel
theorem dX1_makeOrder_104 : decode cX1_makeOrder 104 = .ok (.getfield 45, 3) := by decide +kernel
theorem dX1_makeOrder_107 : decode cX1_makeOrder 107 = .ok (.iload 4, 2) := by decide +kernel
theorem dX1_makeOrder_109 : decode cX1_makeOrder 109 = .ok (.iaload, 1) := by decide +kernel
theorem dX1_makeOrder_110 : decode cX1_makeOrder 110 = .ok (.invokevirtual 206, 3) := by decide +kernel
theorem dX1_makeOrder_113 : decode cX1_makeOrder 113 = .ok (.iinc 4 1, 3) := by decide +kernel
theorem dX1_makeOrder_116 : decode cX1_makeOrder 116 = .ok (.goto (-24), 3) := by decide +kernel
theorem dX1_makeOrder_119 : decode cX1_makeOrder 119 = .ok (.return_, 1) := by decide +kernel
theorem dX1_goesBefore_0 : decode cX1_goesBefore 0 = .ok (.iload_n 2, 1) := by decide +kernel
theorem dX1_goesBefore_1 : decode cX1_goesBefore 1 = .ok (.ifCond .eq 16, 3) := by decide +kernel
theorem dX1_goesBefore_4 : decode cX1_goesBefore 4 = .ok (.iload_n 0, 1) := by decide +kernel
theorem dX1_goesBefore_5 : decode cX1_goesBefore 5 = .ok (.iload_n 1, 1) := by decide +kernel
theorem dX1_goesBefore_6 : decode cX1_goesBefore 6 = .ok (.if_icmp .le 7, 3) := by decide +kernel
theorem dX1_goesBefore_9 : decode cX1_goesBefore 9 = .ok (.iconst 1, 1) := by decide +kernel
theorem dX1_goesBefore_10 : decode cX1_goesBefore 10 = .ok (.goto 17, 3) := by decide +kernel
theorem dX1_goesBefore_13 : decode cX1_goesBefore 13 = .ok (.iconst 0, 1) := by decide +kernel
theorem dX1_goesBefore_14 : decode cX1_goesBefore 14 = .ok (.goto 13, 3) := by decide +kernel
theorem dX1_goesBefore_17 : decode cX1_goesBefore 17 = .ok (.iload_n 0, 1) := by decide +kernel
theorem dX1_goesBefore_18 : decode cX1_goesBefore 18 = .ok (.iload_n 1, 1) := by decide +kernel
theorem dX1_goesBefore_19 : decode cX1_goesBefore 19 = .ok (.if_icmp .ge 7, 3) := by decide +kernel
theorem dX1_goesBefore_22 : decode cX1_goesBefore 22 = .ok (.iconst 1, 1) := by decide +kernel
theorem dX1_goesBefore_23 : decode cX1_goesBefore 23 = .ok (.goto 4, 3) := by decide +kernel
theorem dX1_goesBefore_26 : decode cX1_goesBefore 26 = .ok (.iconst 0, 1) := by decide +kernel
theorem dX1_goesBefore_27 : decode cX1_goesBefore 27 = .ok (.ireturn, 1) := by decide +kernel
theorem dX1_makeAggregates_0 : decode cX1_makeAggregates 0 = .ok (.aload_n 2, 1) := by decide +kernel
theorem dX1_makeAggregates_1 : decode cX1_makeAggregates 1 = .ok (.getfield 186, 3) := by decide +kernel
theorem dX1_makeAggregates_4 : decode cX1_makeAggregates 4 = .ok (.ifCond .ne 18, 3) := by decide +kernel
theorem dX1_makeAggregates_7 : decode cX1_makeAggregates 7 = .ok (.aload_n 1, 1) := by decide +kernel
theorem dX1_makeAggregates_8 : decode cX1_makeAggregates 8 = .ok (.getfield 135, 3) := by decide +kernel
theorem dX1_makeAggregates_11 : decode cX1_makeAggregates 11 = .ok (.ifCond .ne 11, 3) := by decide +kernel
theorem dX1_makeAggregates_14 : decode cX1_makeAggregates 14 = .ok (.aload_n 3, 1) := by decide +kernel
theorem dX1_makeAggregates_15 : decode cX1_makeAggregates 15 = .ok (.invokevirtual 157, 3) := by decide +kernel
theorem dX1_makeAggregates_18 : decode cX1_makeAggregates 18 = .ok (.aload_n 3, 1) := by decide +kernel
theorem dX1_makeAggregates_19 : decode cX1_makeAggregates 19 = .ok (.invokevirtual 179, 3) := by decide +kernel
theorem dX1_makeAggregates_22 : decode cX1_makeAggregates 22 = .ok (.iconst 0, 1) := by decide +kernel
theorem dX1_makeAggregates_23 : decode cX1_makeAggregates 23 = .ok (.istore 4, 2) := by decide +kernel
theorem dX1_makeAggregates_25 : decode cX1_makeAggregates 25 = .ok (.iload 4, 2) := by decide +kernel
theorem dX1_makeAggregates_27 : decode cX1_makeAggregates 27 = .ok (.aload_n 3, 1) := by decide +kernel
theorem dX1_makeAggregates_28 : decode cX1_makeAggregates 28 = .ok (.getfield 186, 3) := by decide +kernel
theorem dX1_makeAggregates_31 : decode cX1_makeAggregates 31 = .ok (.if_icmp .ge 28, 3) := by decide +kernel
theorem dX1_makeAggregates_34 : decode cX1_makeAggregates 34 = .ok (.aload_n 3, 1) := by decide +kernel
theorem dX1_makeAggregates_35 : decode cX1_makeAggregates 35 = .ok (.iload 4, 2) := by decide +kernel
theorem dX1_makeAggregates_37 : decode cX1_makeAggregates 37 = .ok (.aload_n 1, 1) := by decide +kernel
theorem dX1_makeAggregates_38 : decode cX1_makeAggregates 38 = .ok (.getfield 191, 3) := by decide +kernel
theorem dX1_makeAggregates_41 : decode cX1_makeAggregates 41 = .ok (.aload_n 0, 1) := by decide +kernel
theorem dX1_makeAggregates_42 : decode cX1_makeAggregates 42 = .ok (.aload_n 1, 1) := by decide +kernel
theorem dX1_makeAggregates_43 : decode cX1_makeAggregates 43 = .ok (.aload_n 2, 1) := by decide +kernel
theorem dX1_makeAggregates_44 : decode cX1_makeAggregates 44 = .ok (.aload_n 3, 1) := by decide +kernel
theorem dX1_makeAggregates_45 : decode cX1_makeAggregates 45 = .ok (.iload 4, 2) := by decide +kernel
theorem dX1_makeAggregates_47 : decode cX1_makeAggregates 47 = .ok (.invokevirtual 241, 3) := by decide +kernel
theorem dX1_makeAggregates_50 : decode cX1_makeAggregates 50 = .ok (.invokevirtual 245, 3) := by decide +kernel
theorem dX1_makeAggregates_53 : decode cX1_makeAggregates 53 = .ok (.iinc 4 1, 3) := by decide +kernel
theorem dX1_makeAggregates_56 : decode cX1_makeAggregates 56 = .ok (.goto (-31), 3) := by decide +kernel
theorem dX1_makeAggregates_59 : decode cX1_makeAggregates 59 = .ok (.return_, 1) := by decide +kernel
theorem dX1_aggregate_0 : decode cX1_aggregate 0 = .ok (.iconst 0, 1) := by decide +kernel
theorem dX1_aggregate_1 : decode cX1_aggregate 1 = .ok (.istore 5, 2) := by decide +kernel
theorem dX1_aggregate_3 : decode cX1_aggregate 3 = .ok (.iconst 0, 1) := by decide +kernel
theorem dX1_aggregate_4 : decode cX1_aggregate 4 = .ok (.istore 6, 2) := by decide +kernel
theorem dX1_aggregate_6 : decode cX1_aggregate 6 = .ok (.lconst 0, 1) := by decide +kernel
theorem dX1_aggregate_7 : decode cX1_aggregate 7 = .ok (.lstore 7, 2) := by decide +kernel
theorem dX1_aggregate_9 : decode cX1_aggregate 9 = .ok (.ldc 249, 2) := by decide +kernel
theorem dX1_aggregate_11 : decode cX1_aggregate 11 = .ok (.istore 9, 2) := by decide +kernel
theorem dX1_aggregate_13 : decode cX1_aggregate 13 = .ok (.ldc 250, 2) := by decide +kernel
theorem dX1_aggregate_15 : decode cX1_aggregate 15 = .ok (.istore 10, 2) := by decide +kernel
theorem dX1_aggregate_17 : decode cX1_aggregate 17 = .ok (.iconst 0, 1) := by decide +kernel
theorem dX1_aggregate_18 : decode cX1_aggregate 18 = .ok (.istore 11, 2) := by decide +kernel
theorem dX1_aggregate_20 : decode cX1_aggregate 20 = .ok (.iload 11, 2) := by decide +kernel
theorem dX1_aggregate_22 : decode cX1_aggregate 22 = .ok (.aload_n 2, 1) := by decide +kernel
theorem dX1_aggregate_23 : decode cX1_aggregate 23 = .ok (.getfield 186, 3) := by decide +kernel
theorem dX1_aggregate_26 : decode cX1_aggregate 26 = .ok (.if_icmp .ge 90, 3) := by decide +kernel
theorem dX1_aggregate_29 : decode cX1_aggregate 29 = .ok (.aload_n 3, 1) := by decide +kernel
theorem dX1_aggregate_30 : decode cX1_aggregate 30 = .ok (.iload 4, 2) := by decide +kernel
theorem dX1_aggregate_32 : decode cX1_aggregate 32 = .ok (.aload_n 2, 1) := by decide +kernel
theorem dX1_aggregate_33 : decode cX1_aggregate 33 = .ok (.iload 11, 2) := by decide +kernel
theorem dX1_aggregate_35 : decode cX1_aggregate 35 = .ok (.aload_n 1, 1) := by decide +kernel
theorem dX1_aggregate_36 : decode cX1_aggregate 36 = .ok (.getfield 135, 3) := by decide +kernel
theorem dX1_aggregate_39 : decode cX1_aggregate 39 = .ok (.invokevirtual 251, 3) := by decide +kernel
theorem dX1_aggregate_42 : decode cX1_aggregate 42 = .ok (.ifCond .ne 6, 3) := by decide +kernel
theorem dX1_aggregate_45 : decode cX1_aggregate 45 = .ok (.goto 65, 3) := by decide +kernel
theorem dX1_aggregate_48 : decode cX1_aggregate 48 = .ok (.aload_n 0, 1) := by decide +kernel
theorem dX1_aggregate_49 : decode cX1_aggregate 49 = .ok (.getfield 42, 3) := by decide +kernel
theorem dX1_aggregate_52 : decode cX1_aggregate 52 = .ok (.iload 11, 2) := by decide +kernel
theorem dX1_aggregate_54 : decode cX1_aggregate 54 = .ok (.iaload, 1) := by decide +kernel
theorem dX1_aggregate_55 : decode cX1_aggregate 55 = .ok (.ldc 255, 2) := by decide +kernel
theorem dX1_aggregate_57 : decode cX1_aggregate 57 = .ok (.if_icmp .ne 9, 3) := by decide +kernel
theorem dX1_aggregate_60 : decode cX1_aggregate 60 = .ok (.iinc 5 1, 3) := by decide +kernel
theorem dX1_aggregate_63 : decode cX1_aggregate 63 = .ok (.goto 47, 3) := by decide +kernel
theorem dX1_aggregate_66 : decode cX1_aggregate 66 = .ok (.iinc 6 1, 3) := by decide +kernel
theorem dX1_aggregate_69 : decode cX1_aggregate 69 = .ok (.lload 7, 2) := by decide +kernel
theorem dX1_aggregate_71 : decode cX1_aggregate 71 = .ok (.aload_n 0, 1) := by decide +kernel
theorem dX1_aggregate_72 : decode cX1_aggregate 72 = .ok (.getfield 42, 3) := by decide +kernel
theorem dX1_aggregate_75 : decode cX1_aggregate 75 = .ok (.iload 11, 2) := by decide +kernel
theorem dX1_aggregate_77 : decode cX1_aggregate 77 = .ok (.iaload, 1) := by decide +kernel
theorem dX1_aggregate_78 : decode cX1_aggregate 78 = .ok (.i2l, 1) := by decide +kernel
theorem dX1_aggregate_79 : decode cX1_aggregate 79 = .ok (.ladd, 1) := by decide +kernel
theorem dX1_aggregate_80 : decode cX1_aggregate 80 = .ok (.lstore 7, 2) := by decide +kernel
theorem dX1_aggregate_82 : decode cX1_aggregate 82 = .ok (.iload 9, 2) := by decide +kernel
theorem dX1_aggregate_84 : decode cX1_aggregate 84 = .ok (.aload_n 0, 1) := by decide +kernel
theorem dX1_aggregate_85 : decode cX1_aggregate 85 = .ok (.getfield 42, 3) := by decide +kernel
theorem dX1_aggregate_88 : decode cX1_aggregate 88 = .ok (.iload 11, 2) := by decide +kernel
theorem dX1_aggregate_90 : decode cX1_aggregate 90 = .ok (.iaload, 1) := by decide +kernel
theorem dX1_aggregate_91 : decode cX1_aggregate 91 = .ok (.invokestatic 256, 3) := by decide +kernel
theorem dX1_aggregate_94 : decode cX1_aggregate 94 = .ok (.istore 9, 2) := by decide +kernel
theorem dX1_aggregate_96 : decode cX1_aggregate 96 = .ok (.iload 10, 2) := by decide +kernel
theorem dX1_aggregate_98 : decode cX1_aggregate 98 = .ok (.aload_n 0, 1) := by decide +kernel
theorem dX1_aggregate_99 : decode cX1_aggregate 99 = .ok (.getfield 42, 3) := by decide +kernel
theorem dX1_aggregate_102 : decode cX1_aggregate 102 = .ok (.iload 11, 2) := by decide +kernel
theorem dX1_aggregate_104 : decode cX1_aggregate 104 = .ok (.iaload, 1) := by decide +kernel
theorem dX1_aggregate_105 : decode cX1_aggregate 105 = .ok (.invokestatic 262, 3) := by decide +kernel
theorem dX1_aggregate_108 : decode cX1_aggregate 108 = .ok (.istore 10, 2) := by decide +kernel
theorem dX1_aggregate_110 : decode cX1_aggregate 110 = .ok (.iinc 11 1, 3) := by decide +kernel
theorem dX1_aggregate_113 : decode cX1_aggregate 113 = .ok (.goto (-93), 3) := by decide +kernel
theorem dX1_aggregate_116 : decode cX1_aggregate 116 = .ok (.aload_n 1, 1) := by decide +kernel
theorem dX1_aggregate_117 : decode cX1_aggregate 117 = .ok (.getfield 265, 3) := by decide +kernel
theorem dX1_aggregate_120 : decode cX1_aggregate 120 = .ok (.ifCond .ne 6, 3) := by decide +kernel
theorem dX1_aggregate_123 : decode cX1_aggregate 123 = .ok (.iload 6, 2) := by decide +kernel
theorem dX1_aggregate_125 : decode cX1_aggregate 125 = .ok (.ireturn, 1) := by decide +kernel
theorem dX1_aggregate_126 : decode cX1_aggregate 126 = .ok (.iload 5, 2) := by decide +kernel
theorem dX1_aggregate_128 : decode cX1_aggregate 128 = .ok (.ifCond .le 6, 3) := by decide +kernel
theorem dX1_aggregate_131 : decode cX1_aggregate 131 = .ok (.ldc 255, 2) := by decide +kernel
theorem dX1_aggregate_133 : decode cX1_aggregate 133 = .ok (.ireturn, 1) := by decide +kernel
theorem dX1_aggregate_134 : decode cX1_aggregate 134 = .ok (.aload_n 1, 1) := by decide +kernel
theorem dX1_aggregate_135 : decode cX1_aggregate 135 = .ok (.getfield 265, 3) := by decide +kernel
theorem dX1_aggregate_138 : decode cX1_aggregate 138 = .ok (.iconst 1, 1) := by decide +kernel
theorem dX1_aggregate_139 : decode cX1_aggregate 139 = .ok (.if_icmp .ne 9, 3) := by decide +kernel
theorem dX1_aggregate_142 : decode cX1_aggregate 142 = .ok (.lload 7, 2) := by decide +kernel
theorem dX1_aggregate_144 : decode cX1_aggregate 144 = .ok (.invokestatic 267, 3) := by decide +kernel
theorem dX1_aggregate_147 : decode cX1_aggregate 147 = .ok (.ireturn, 1) := by decide +kernel
theorem dX1_aggregate_148 : decode cX1_aggregate 148 = .ok (.iload 6, 2) := by decide +kernel
theorem dX1_aggregate_150 : decode cX1_aggregate 150 = .ok (.ifCond .ne 6, 3) := by decide +kernel
theorem dX1_aggregate_153 : decode cX1_aggregate 153 = .ok (.ldc 255, 2) := by decide +kernel
theorem dX1_aggregate_155 : decode cX1_aggregate 155 = .ok (.ireturn, 1) := by decide +kernel
theorem dX1_aggregate_156 : decode cX1_aggregate 156 = .ok (.aload_n 1, 1) := by decide +kernel
theorem dX1_aggregate_157 : decode cX1_aggregate 157 = .ok (.getfield 265, 3) := by decide +kernel
theorem dX1_aggregate_160 : decode cX1_aggregate 160 = .ok (.iconst 2, 1) := by decide +kernel
theorem dX1_aggregate_161 : decode cX1_aggregate 161 = .ok (.if_icmp .ne 8, 3) := by decide +kernel
theorem dX1_aggregate_164 : decode cX1_aggregate 164 = .ok (.iload 9, 2) := by decide +kernel
theorem dX1_aggregate_166 : decode cX1_aggregate 166 = .ok (.goto 5, 3) := by decide +kernel
theorem dX1_aggregate_169 : decode cX1_aggregate 169 = .ok (.iload 10, 2) := by decide +kernel
theorem dX1_aggregate_171 : decode cX1_aggregate 171 = .ok (.ireturn, 1) := by decide +kernel
