theorem dX7_look_13 : decode cX7_look 13 = .ok (.ifCond .ne 6, 3) := by decide +kernel
theorem dX7_look_16 : decode cX7_look 16 = .ok (.ldc 73, 2) := by decide +kernel
theorem dX7_look_18 : decode cX7_look 18 = .ok (.ireturn, 1) := by decide +kernel
theorem dX7_look_19 : decode cX7_look 19 = .ok (.iconst 0, 1) := by decide +kernel
theorem dX7_look_20 : decode cX7_look 20 = .ok (.istore_n 3, 1) := by decide +kernel
theorem dX7_look_21 : decode cX7_look 21 = .ok (.iload_n 3, 1) := by decide +kernel
theorem dX7_look_22 : decode cX7_look 22 = .ok (.bipush 6, 2) := by decide +kernel
theorem dX7_look_24 : decode cX7_look 24 = .ok (.if_icmp .ge 26, 3) := by decide +kernel
theorem dX7_look_27 : decode cX7_look 27 = .ok (.aload_n 0, 1) := by decide +kernel
theorem dX7_look_28 : decode cX7_look 28 = .ok (.getfield 29, 3) := by decide +kernel
theorem dX7_look_31 : decode cX7_look 31 = .ok (.iload_n 3, 1) := by decide +kernel
theorem dX7_look_32 : decode cX7_look 32 = .ok (.aload_n 0, 1) := by decide +kernel
theorem dX7_look_33 : decode cX7_look 33 = .ok (.getfield 32, 3) := by decide +kernel
theorem dX7_look_36 : decode cX7_look 36 = .ok (.bipush 6, 2) := by decide +kernel
theorem dX7_look_38 : decode cX7_look 38 = .ok (.iload_n 1, 1) := by decide +kernel
theorem dX7_look_39 : decode cX7_look 39 = .ok (.imul, 1) := by decide +kernel
theorem dX7_look_40 : decode cX7_look 40 = .ok (.iload_n 3, 1) := by decide +kernel
theorem dX7_look_41 : decode cX7_look 41 = .ok (.iadd, 1) := by decide +kernel
theorem dX7_look_42 : decode cX7_look 42 = .ok (.iaload, 1) := by decide +kernel
theorem dX7_look_43 : decode cX7_look 43 = .ok (.iastore, 1) := by decide +kernel
theorem dX7_look_44 : decode cX7_look 44 = .ok (.iinc 3 1, 3) := by decide +kernel
theorem dX7_look_47 : decode cX7_look 47 = .ok (.goto (-26), 3) := by decide +kernel
theorem dX7_look_50 : decode cX7_look 50 = .ok (.aload_n 0, 1) := by decide +kernel
theorem dX7_look_51 : decode cX7_look 51 = .ok (.iload_n 2, 1) := by decide +kernel
theorem dX7_look_52 : decode cX7_look 52 = .ok (.invokevirtual 81, 3) := by decide +kernel
theorem dX7_look_55 : decode cX7_look 55 = .ok (.ireturn, 1) := by decide +kernel
theorem dX7_many_0 : decode cX7_many 0 = .ok (.aload_n 0, 1) := by decide +kernel
theorem dX7_many_1 : decode cX7_many 1 = .ok (.iload_n 1, 1) := by decide +kernel
theorem dX7_many_2 : decode cX7_many 2 = .ok (.invokevirtual 181, 3) := by decide +kernel
theorem dX7_many_5 : decode cX7_many 5 = .ok (.ifCond .ne 5, 3) := by decide +kernel
theorem dX7_many_8 : decode cX7_many 8 = .ok (.iconst (-1), 1) := by decide +kernel
theorem dX7_many_9 : decode cX7_many 9 = .ok (.ireturn, 1) := by decide +kernel
theorem dX7_many_10 : decode cX7_many 10 = .ok (.iconst 0, 1) := by decide +kernel
theorem dX7_many_11 : decode cX7_many 11 = .ok (.istore_n 2, 1) := by decide +kernel
theorem dX7_many_12 : decode cX7_many 12 = .ok (.iconst 0, 1) := by decide +kernel
theorem dX7_many_13 : decode cX7_many 13 = .ok (.istore_n 3, 1) := by decide +kernel
theorem dX7_many_14 : decode cX7_many 14 = .ok (.iload_n 3, 1) := by decide +kernel
theorem dX7_many_15 : decode cX7_many 15 = .ok (.aload_n 0, 1) := by decide +kernel
theorem dX7_many_16 : decode cX7_many 16 = .ok (.getfield 178, 3) := by decide +kernel
theorem dX7_many_19 : decode cX7_many 19 = .ok (.if_icmp .ge 80, 3) := by decide +kernel
theorem dX7_many_22 : decode cX7_many 22 = .ok (.iconst 1, 1) := by decide +kernel
theorem dX7_many_23 : decode cX7_many 23 = .ok (.istore 4, 2) := by decide +kernel
theorem dX7_many_25 : decode cX7_many 25 = .ok (.iconst 0, 1) := by decide +kernel
theorem dX7_many_26 : decode cX7_many 26 = .ok (.istore 5, 2) := by decide +kernel
theorem dX7_many_28 : decode cX7_many 28 = .ok (.iload 5, 2) := by decide +kernel
theorem dX7_many_30 : decode cX7_many 30 = .ok (.bipush 6, 2) := by decide +kernel
theorem dX7_many_32 : decode cX7_many 32 = .ok (.if_icmp .ge 48, 3) := by decide +kernel
theorem dX7_many_35 : decode cX7_many 35 = .ok (.iload 4, 2) := by decide +kernel
theorem dX7_many_37 : decode cX7_many 37 = .ok (.ifCond .eq 34, 3) := by decide +kernel
theorem dX7_many_40 : decode cX7_many 40 = .ok (.aload_n 0, 1) := by decide +kernel
theorem dX7_many_41 : decode cX7_many 41 = .ok (.getfield 32, 3) := by decide +kernel
theorem dX7_many_44 : decode cX7_many 44 = .ok (.bipush 6, 2) := by decide +kernel
theorem dX7_many_46 : decode cX7_many 46 = .ok (.iload_n 1, 1) := by decide +kernel
theorem dX7_many_47 : decode cX7_many 47 = .ok (.imul, 1) := by decide +kernel
theorem dX7_many_48 : decode cX7_many 48 = .ok (.iload 5, 2) := by decide +kernel
theorem dX7_many_50 : decode cX7_many 50 = .ok (.iadd, 1) := by decide +kernel
theorem dX7_many_51 : decode cX7_many 51 = .ok (.iaload, 1) := by decide +kernel
theorem dX7_many_52 : decode cX7_many 52 = .ok (.aload_n 0, 1) := by decide +kernel
theorem dX7_many_53 : decode cX7_many 53 = .ok (.getfield 32, 3) := by decide +kernel
theorem dX7_many_56 : decode cX7_many 56 = .ok (.bipush 6, 2) := by decide +kernel
theorem dX7_many_58 : decode cX7_many 58 = .ok (.iload_n 3, 1) := by decide +kernel
theorem dX7_many_59 : decode cX7_many 59 = .ok (.imul, 1) := by decide +kernel
theorem dX7_many_60 : decode cX7_many 60 = .ok (.iload 5, 2) := by decide +kernel
theorem dX7_many_62 : decode cX7_many 62 = .ok (.iadd, 1) := by decide +kernel
theorem dX7_many_63 : decode cX7_many 63 = .ok (.iaload, 1) := by decide +kernel
theorem dX7_many_64 : decode cX7_many 64 = .ok (.if_icmp .ne 7, 3) := by decide +kernel
theorem dX7_many_67 : decode cX7_many 67 = .ok (.iconst 1, 1) := by decide +kernel
theorem dX7_many_68 : decode cX7_many 68 = .ok (.goto 4, 3) := by decide +kernel
theorem dX7_many_71 : decode cX7_many 71 = .ok (.iconst 0, 1) := by decide +kernel
theorem dX7_many_72 : decode cX7_many 72 = .ok (.istore 4, 2) := by decide +kernel
theorem dX7_many_74 : decode cX7_many 74 = .ok (.iinc 5 1, 3) := by decide +kernel
theorem dX7_many_77 : decode cX7_many 77 = .ok (.goto (-49), 3) := by decide +kernel
theorem dX7_many_80 : decode cX7_many 80 = .ok (.iload_n 2, 1) := by decide +kernel
theorem dX7_many_81 : decode cX7_many 81 = .ok (.iload 4, 2) := by decide +kernel
theorem dX7_many_83 : decode cX7_many 83 = .ok (.ifCond .eq 7, 3) := by decide +kernel
theorem dX7_many_86 : decode cX7_many 86 = .ok (.iconst 1, 1) := by decide +kernel
theorem dX7_many_87 : decode cX7_many 87 = .ok (.goto 4, 3) := by decide +kernel
theorem dX7_many_90 : decode cX7_many 90 = .ok (.iconst 0, 1) := by decide +kernel
theorem dX7_many_91 : decode cX7_many 91 = .ok (.iadd, 1) := by decide +kernel
theorem dX7_many_92 : decode cX7_many 92 = .ok (.istore_n 2, 1) := by decide +kernel
theorem dX7_many_93 : decode cX7_many 93 = .ok (.iinc 3 1, 3) := by decide +kernel
theorem dX7_many_96 : decode cX7_many 96 = .ok (.goto (-82), 3) := by decide +kernel
theorem dX7_many_99 : decode cX7_many 99 = .ok (.iload_n 2, 1) := by decide +kernel
theorem dX7_many_100 : decode cX7_many 100 = .ok (.ireturn, 1) := by decide +kernel
theorem dX7_often_0 : decode cX7_often 0 = .ok (.iconst 0, 1) := by decide +kernel
theorem dX7_often_1 : decode cX7_often 1 = .ok (.istore 4, 2) := by decide +kernel
theorem dX7_often_3 : decode cX7_often 3 = .ok (.iconst 0, 1) := by decide +kernel
theorem dX7_often_4 : decode cX7_often 4 = .ok (.istore 5, 2) := by decide +kernel
theorem dX7_often_6 : decode cX7_often 6 = .ok (.iload 5, 2) := by decide +kernel
theorem dX7_often_8 : decode cX7_often 8 = .ok (.aload_n 0, 1) := by decide +kernel
theorem dX7_often_9 : decode cX7_often 9 = .ok (.getfield 26, 3) := by decide +kernel
theorem dX7_often_12 : decode cX7_often 12 = .ok (.iload_n 3, 1) := by decide +kernel
theorem dX7_often_13 : decode cX7_often 13 = .ok (.iaload, 1) := by decide +kernel
theorem dX7_often_14 : decode cX7_often 14 = .ok (.if_icmp .ge 33, 3) := by decide +kernel
theorem dX7_often_17 : decode cX7_often 17 = .ok (.iload 4, 2) := by decide +kernel
theorem dX7_often_19 : decode cX7_often 19 = .ok (.aload_n 0, 1) := by decide +kernel
theorem dX7_often_20 : decode cX7_often 20 = .ok (.iload_n 1, 1) := by decide +kernel
theorem dX7_often_21 : decode cX7_often 21 = .ok (.iload_n 2, 1) := by decide +kernel
theorem dX7_often_22 : decode cX7_often 22 = .ok (.iload_n 3, 1) := by decide +kernel
theorem dX7_often_23 : decode cX7_often 23 = .ok (.iload 5, 2) := by decide +kernel
theorem dX7_often_25 : decode cX7_often 25 = .ok (.bipush 63, 2) := by decide +kernel
theorem dX7_often_27 : decode cX7_often 27 = .ok (.invokevirtual 130, 3) := by decide +kernel
theorem dX7_often_30 : decode cX7_often 30 = .ok (.ifCond .eq 7, 3) := by decide +kernel
theorem dX7_often_33 : decode cX7_often 33 = .ok (.iconst 1, 1) := by decide +kernel
theorem dX7_often_34 : decode cX7_often 34 = .ok (.goto 4, 3) := by decide +kernel
theorem dX7_often_37 : decode cX7_often 37 = .ok (.iconst 0, 1) := by decide +kernel
theorem dX7_often_38 : decode cX7_often 38 = .ok (.iadd, 1) := by decide +kernel
theorem dX7_often_39 : decode cX7_often 39 = .ok (.istore 4, 2) := by decide +kernel
theorem dX7_often_41 : decode cX7_often 41 = .ok (.iinc 5 1, 3) := by decide +kernel
theorem dX7_often_44 : decode cX7_often 44 = .ok (.goto (-38), 3) := by decide +kernel
theorem dX7_often_47 : decode cX7_often 47 = .ok (.iload 4, 2) := by decide +kernel
theorem dX7_often_49 : decode cX7_often 49 = .ok (.ireturn, 1) := by decide +kernel
theorem dX7_same_0 : decode cX7_same 0 = .ok (.aload_n 0, 1) := by decide +kernel
theorem dX7_same_1 : decode cX7_same 1 = .ok (.iload_n 1, 1) := by decide +kernel
theorem dX7_same_2 : decode cX7_same 2 = .ok (.invokevirtual 95, 3) := by decide +kernel
theorem dX7_same_5 : decode cX7_same 5 = .ok (.ifCond .eq 11, 3) := by decide +kernel
theorem dX7_same_8 : decode cX7_same 8 = .ok (.aload_n 0, 1) := by decide +kernel
theorem dX7_same_9 : decode cX7_same 9 = .ok (.iload_n 2, 1) := by decide +kernel
theorem dX7_same_10 : decode cX7_same 10 = .ok (.invokevirtual 95, 3) := by decide +kernel
theorem dX7_same_13 : decode cX7_same 13 = .ok (.ifCond .ne 5, 3) := by decide +kernel
theorem dX7_same_16 : decode cX7_same 16 = .ok (.iconst 0, 1) := by decide +kernel
theorem dX7_same_17 : decode cX7_same 17 = .ok (.ireturn, 1) := by decide +kernel
theorem dX7_same_18 : decode cX7_same 18 = .ok (.aload_n 0, 1) := by decide +kernel
theorem dX7_same_19 : decode cX7_same 19 = .ok (.invokevirtual 175, 3) := by decide +kernel
theorem dX7_same_22 : decode cX7_same 22 = .ok (.iload_n 1, 1) := by decide +kernel
theorem dX7_same_23 : decode cX7_same 23 = .ok (.iconst 0, 1) := by decide +kernel
theorem dX7_same_24 : decode cX7_same 24 = .ok (.invokestatic 140, 3) := by decide +kernel
theorem dX7_same_27 : decode cX7_same 27 = .ok (.istore_n 3, 1) := by decide +kernel
theorem dX7_same_28 : decode cX7_same 28 = .ok (.iload_n 2, 1) := by decide +kernel
theorem dX7_same_29 : decode cX7_same 29 = .ok (.iconst 0, 1) := by decide +kernel
theorem dX7_same_30 : decode cX7_same 30 = .ok (.invokestatic 140, 3) := by decide +kernel
theorem dX7_same_33 : decode cX7_same 33 = .ok (.istore 4, 2) := by decide +kernel
theorem dX7_same_35 : decode cX7_same 35 = .ok (.aload_n 0, 1) := by decide +kernel
theorem dX7_same_36 : decode cX7_same 36 = .ok (.getfield 26, 3) := by decide +kernel
theorem dX7_same_39 : decode cX7_same 39 = .ok (.iload_n 3, 1) := by decide +kernel
theorem dX7_same_40 : decode cX7_same 40 = .ok (.iaload, 1) := by decide +kernel
theorem dX7_same_41 : decode cX7_same 41 = .ok (.bipush (-2), 2) := by decide +kernel
theorem dX7_same_43 : decode cX7_same 43 = .ok (.if_icmp .eq 31, 3) := by decide +kernel
theorem dX7_same_46 : decode cX7_same 46 = .ok (.aload_n 0, 1) := by decide +kernel
theorem dX7_same_47 : decode cX7_same 47 = .ok (.getfield 26, 3) := by decide +kernel
theorem dX7_same_50 : decode cX7_same 50 = .ok (.iload 4, 2) := by decide +kernel
theorem dX7_same_52 : decode cX7_same 52 = .ok (.iaload, 1) := by decide +kernel
theorem dX7_same_53 : decode cX7_same 53 = .ok (.bipush (-2), 2) := by decide +kernel
theorem dX7_same_55 : decode cX7_same 55 = .ok (.if_icmp .eq 19, 3) := by decide +kernel
theorem dX7_same_58 : decode cX7_same 58 = .ok (.aload_n 0, 1) := by decide +kernel
theorem dX7_same_59 : decode cX7_same 59 = .ok (.getfield 26, 3) := by decide +kernel
theorem dX7_same_62 : decode cX7_same 62 = .ok (.iload_n 3, 1) := by decide +kernel
theorem dX7_same_63 : decode cX7_same 63 = .ok (.iaload, 1) := by decide +kernel
theorem dX7_same_64 : decode cX7_same 64 = .ok (.aload_n 0, 1) := by decide +kernel
theorem dX7_same_65 : decode cX7_same 65 = .ok (.getfield 26, 3) := by decide +kernel
theorem dX7_same_68 : decode cX7_same 68 = .ok (.iload 4, 2) := by decide +kernel
theorem dX7_same_70 : decode cX7_same 70 = .ok (.iaload, 1) := by decide +kernel
theorem dX7_same_71 : decode cX7_same 71 = .ok (.if_icmp .eq 5, 3) := by decide +kernel
theorem dX7_same_74 : decode cX7_same 74 = .ok (.iconst 0, 1) := by decide +kernel
theorem dX7_same_75 : decode cX7_same 75 = .ok (.ireturn, 1) := by decide +kernel
theorem dX7_same_76 : decode cX7_same 76 = .ok (.iconst 0, 1) := by decide +kernel
theorem dX7_same_77 : decode cX7_same 77 = .ok (.istore 5, 2) := by decide +kernel
theorem dX7_same_79 : decode cX7_same 79 = .ok (.iload 5, 2) := by decide +kernel
theorem dX7_same_81 : decode cX7_same 81 = .ok (.aload_n 0, 1) := by decide +kernel
theorem dX7_same_82 : decode cX7_same 82 = .ok (.getfield 26, 3) := by decide +kernel
theorem dX7_same_85 : decode cX7_same 85 = .ok (.iload_n 3, 1) := by decide +kernel
theorem dX7_same_86 : decode cX7_same 86 = .ok (.iaload, 1) := by decide +kernel
theorem dX7_same_87 : decode cX7_same 87 = .ok (.if_icmp .ge 31, 3) := by decide +kernel
theorem dX7_same_90 : decode cX7_same 90 = .ok (.aload_n 0, 1) := by decide +kernel
theorem dX7_same_91 : decode cX7_same 91 = .ok (.iload_n 3, 1) := by decide +kernel
theorem dX7_same_92 : decode cX7_same 92 = .ok (.iload 5, 2) := by decide +kernel
theorem dX7_same_94 : decode cX7_same 94 = .ok (.iload_n 3, 1) := by decide +kernel
theorem dX7_same_95 : decode cX7_same 95 = .ok (.invokevirtual 184, 3) := by decide +kernel
theorem dX7_same_98 : decode cX7_same 98 = .ok (.aload_n 0, 1) := by decide +kernel
theorem dX7_same_99 : decode cX7_same 99 = .ok (.iload_n 3, 1) := by decide +kernel
theorem dX7_same_100 : decode cX7_same 100 = .ok (.iload 5, 2) := by decide +kernel
theorem dX7_same_102 : decode cX7_same 102 = .ok (.iload 4, 2) := by decide +kernel
theorem dX7_same_104 : decode cX7_same 104 = .ok (.invokevirtual 184, 3) := by decide +kernel
theorem dX7_same_107 : decode cX7_same 107 = .ok (.if_icmp .eq 5, 3) := by decide +kernel
theorem dX7_same_110 : decode cX7_same 110 = .ok (.iconst 0, 1) := by decide +kernel
theorem dX7_same_111 : decode cX7_same 111 = .ok (.ireturn, 1) := by decide +kernel
theorem dX7_same_112 : decode cX7_same 112 = .ok (.iinc 5 1, 3) := by decide +kernel
theorem dX7_same_115 : decode cX7_same 115 = .ok (.goto (-36), 3) := by decide +kernel
theorem dX7_same_118 : decode cX7_same 118 = .ok (.iconst 1, 1) := by decide +kernel
theorem dX7_same_119 : decode cX7_same 119 = .ok (.ireturn, 1) := by decide +kernel
