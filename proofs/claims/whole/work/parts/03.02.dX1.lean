theorem dX1_init_0 : decode cX1_init 0 = .ok (.aload_n 0, 1) := by decide +kernel
theorem dX1_init_1 : decode cX1_init 1 = .ok (.invokespecial 3, 3) := by decide +kernel
theorem dX1_init_4 : decode cX1_init 4 = .ok (.aload_n 0, 1) := by decide +kernel
theorem dX1_init_5 : decode cX1_init 5 = .ok (.new 9, 3) := by decide +kernel
theorem dX1_init_8 : decode cX1_init 8 = .ok (.dup, 1) := by decide +kernel
theorem dX1_init_9 : decode cX1_init 9 = .ok (.invokespecial 11, 3) := by decide +kernel
theorem dX1_init_12 : decode cX1_init 12 = .ok (.putfield 12, 3) := by decide +kernel
theorem dX1_init_15 : decode cX1_init 15 = .ok (.aload_n 0, 1) := by decide +kernel
theorem dX1_init_16 : decode cX1_init 16 = .ok (.new 18, 3) := by decide +kernel
theorem dX1_init_19 : decode cX1_init 19 = .ok (.dup, 1) := by decide +kernel
theorem dX1_init_20 : decode cX1_init 20 = .ok (.invokespecial 20, 3) := by decide +kernel
theorem dX1_init_23 : decode cX1_init 23 = .ok (.putfield 21, 3) := by decide +kernel
theorem dX1_init_26 : decode cX1_init 26 = .ok (.aload_n 0, 1) := by decide +kernel
theorem dX1_init_27 : decode cX1_init 27 = .ok (.new 25, 3) := by decide +kernel
theorem dX1_init_30 : decode cX1_init 30 = .ok (.dup, 1) := by decide +kernel
theorem dX1_init_31 : decode cX1_init 31 = .ok (.invokespecial 27, 3) := by decide +kernel
theorem dX1_init_34 : decode cX1_init 34 = .ok (.putfield 28, 3) := by decide +kernel
theorem dX1_init_37 : decode cX1_init 37 = .ok (.aload_n 0, 1) := by decide +kernel
theorem dX1_init_38 : decode cX1_init 38 = .ok (.bipush 120, 2) := by decide +kernel
theorem dX1_init_40 : decode cX1_init 40 = .ok (.anewarray 32, 3) := by decide +kernel
theorem dX1_init_43 : decode cX1_init 43 = .ok (.putfield 34, 3) := by decide +kernel
theorem dX1_init_46 : decode cX1_init 46 = .ok (.aload_n 0, 1) := by decide +kernel
theorem dX1_init_47 : decode cX1_init 47 = .ok (.bipush 30, 2) := by decide +kernel
theorem dX1_init_49 : decode cX1_init 49 = .ok (.newarray .int, 2) := by decide +kernel
theorem dX1_init_51 : decode cX1_init 51 = .ok (.putfield 38, 3) := by decide +kernel
theorem dX1_init_54 : decode cX1_init 54 = .ok (.aload_n 0, 1) := by decide +kernel
theorem dX1_init_55 : decode cX1_init 55 = .ok (.bipush 80, 2) := by decide +kernel
theorem dX1_init_57 : decode cX1_init 57 = .ok (.newarray .int, 2) := by decide +kernel
theorem dX1_init_59 : decode cX1_init 59 = .ok (.putfield 42, 3) := by decide +kernel
theorem dX1_init_62 : decode cX1_init 62 = .ok (.aload_n 0, 1) := by decide +kernel
theorem dX1_init_63 : decode cX1_init 63 = .ok (.bipush 80, 2) := by decide +kernel
theorem dX1_init_65 : decode cX1_init 65 = .ok (.newarray .int, 2) := by decide +kernel
theorem dX1_init_67 : decode cX1_init 67 = .ok (.putfield 45, 3) := by decide +kernel
theorem dX1_init_70 : decode cX1_init 70 = .ok (.return_, 1) := by decide +kernel
theorem dX1_rowsOf_0 : decode cX1_rowsOf 0 = .ok (.aload_n 0, 1) := by decide +kernel
theorem dX1_rowsOf_1 : decode cX1_rowsOf 1 = .ok (.iload_n 1, 1) := by decide +kernel
theorem dX1_rowsOf_2 : decode cX1_rowsOf 2 = .ok (.invokevirtual 48, 3) := by decide +kernel
theorem dX1_rowsOf_5 : decode cX1_rowsOf 5 = .ok (.iconst 0, 1) := by decide +kernel
theorem dX1_rowsOf_6 : decode cX1_rowsOf 6 = .ok (.istore_n 2, 1) := by decide +kernel
theorem dX1_rowsOf_7 : decode cX1_rowsOf 7 = .ok (.iload_n 2, 1) := by decide +kernel
theorem dX1_rowsOf_8 : decode cX1_rowsOf 8 = .ok (.iload_n 1, 1) := by decide +kernel
theorem dX1_rowsOf_9 : decode cX1_rowsOf 9 = .ok (.if_icmp .gt 41, 3) := by decide +kernel
theorem dX1_rowsOf_12 : decode cX1_rowsOf 12 = .ok (.iconst 0, 1) := by decide +kernel
theorem dX1_rowsOf_13 : decode cX1_rowsOf 13 = .ok (.istore_n 3, 1) := by decide +kernel
theorem dX1_rowsOf_14 : decode cX1_rowsOf 14 = .ok (.iload_n 3, 1) := by decide +kernel
theorem dX1_rowsOf_15 : decode cX1_rowsOf 15 = .ok (.iconst 4, 1) := by decide +kernel
theorem dX1_rowsOf_16 : decode cX1_rowsOf 16 = .ok (.if_icmp .ge 28, 3) := by decide +kernel
theorem dX1_rowsOf_19 : decode cX1_rowsOf 19 = .ok (.aload_n 0, 1) := by decide +kernel
theorem dX1_rowsOf_20 : decode cX1_rowsOf 20 = .ok (.getfield 38, 3) := by decide +kernel
theorem dX1_rowsOf_23 : decode cX1_rowsOf 23 = .ok (.iload_n 2, 1) := by decide +kernel
theorem dX1_rowsOf_24 : decode cX1_rowsOf 24 = .ok (.iaload, 1) := by decide +kernel
theorem dX1_rowsOf_25 : decode cX1_rowsOf 25 = .ok (.iload_n 3, 1) := by decide +kernel
theorem dX1_rowsOf_26 : decode cX1_rowsOf 26 = .ok (.ishr, 1) := by decide +kernel
theorem dX1_rowsOf_27 : decode cX1_rowsOf 27 = .ok (.iconst 1, 1) := by decide +kernel
theorem dX1_rowsOf_28 : decode cX1_rowsOf 28 = .ok (.iand, 1) := by decide +kernel
theorem dX1_rowsOf_29 : decode cX1_rowsOf 29 = .ok (.ifCond .eq 9, 3) := by decide +kernel
theorem dX1_rowsOf_32 : decode cX1_rowsOf 32 = .ok (.aload_n 0, 1) := by decide +kernel
theorem dX1_rowsOf_33 : decode cX1_rowsOf 33 = .ok (.iload_n 2, 1) := by decide +kernel
theorem dX1_rowsOf_34 : decode cX1_rowsOf 34 = .ok (.iload_n 3, 1) := by decide +kernel
theorem dX1_rowsOf_35 : decode cX1_rowsOf 35 = .ok (.invokevirtual 52, 3) := by decide +kernel
theorem dX1_rowsOf_38 : decode cX1_rowsOf 38 = .ok (.iinc 3 1, 3) := by decide +kernel
theorem dX1_rowsOf_41 : decode cX1_rowsOf 41 = .ok (.goto (-27), 3) := by decide +kernel
theorem dX1_rowsOf_44 : decode cX1_rowsOf 44 = .ok (.iinc 2 1, 3) := by decide +kernel
theorem dX1_rowsOf_47 : decode cX1_rowsOf 47 = .ok (.goto (-40), 3) := by decide +kernel
theorem dX1_rowsOf_50 : decode cX1_rowsOf 50 = .ok (.aload_n 0, 1) := by decide +kernel
theorem dX1_rowsOf_51 : decode cX1_rowsOf 51 = .ok (.iload_n 1, 1) := by decide +kernel
theorem dX1_rowsOf_52 : decode cX1_rowsOf 52 = .ok (.iconst 0, 1) := by decide +kernel
theorem dX1_rowsOf_53 : decode cX1_rowsOf 53 = .ok (.invokevirtual 56, 3) := by decide +kernel
theorem dX1_rowsOf_56 : decode cX1_rowsOf 56 = .ok (.areturn, 1) := by decide +kernel
theorem dX1_markWanted_0 : decode cX1_markWanted 0 = .ok (.iconst 0, 1) := by decide +kernel
theorem dX1_markWanted_1 : decode cX1_markWanted 1 = .ok (.istore_n 2, 1) := by decide +kernel
theorem dX1_markWanted_2 : decode cX1_markWanted 2 = .ok (.iload_n 2, 1) := by decide +kernel
theorem dX1_markWanted_3 : decode cX1_markWanted 3 = .ok (.iload_n 1, 1) := by decide +kernel
theorem dX1_markWanted_4 : decode cX1_markWanted 4 = .ok (.if_icmp .ge 16, 3) := by decide +kernel
theorem dX1_markWanted_7 : decode cX1_markWanted 7 = .ok (.aload_n 0, 1) := by decide +kernel
theorem dX1_markWanted_8 : decode cX1_markWanted 8 = .ok (.getfield 38, 3) := by decide +kernel
theorem dX1_markWanted_11 : decode cX1_markWanted 11 = .ok (.iload_n 2, 1) := by decide +kernel
theorem dX1_markWanted_12 : decode cX1_markWanted 12 = .ok (.iconst 0, 1) := by decide +kernel
theorem dX1_markWanted_13 : decode cX1_markWanted 13 = .ok (.iastore, 1) := by decide +kernel
theorem dX1_markWanted_14 : decode cX1_markWanted 14 = .ok (.iinc 2 1, 3) := by decide +kernel
theorem dX1_markWanted_17 : decode cX1_markWanted 17 = .ok (.goto (-15), 3) := by decide +kernel
theorem dX1_markWanted_20 : decode cX1_markWanted 20 = .ok (.aload_n 0, 1) := by decide +kernel
theorem dX1_markWanted_21 : decode cX1_markWanted 21 = .ok (.getfield 38, 3) := by decide +kernel
theorem dX1_markWanted_24 : decode cX1_markWanted 24 = .ok (.iload_n 1, 1) := by decide +kernel
theorem dX1_markWanted_25 : decode cX1_markWanted 25 = .ok (.iconst 1, 1) := by decide +kernel
theorem dX1_markWanted_26 : decode cX1_markWanted 26 = .ok (.iastore, 1) := by decide +kernel
theorem dX1_markWanted_27 : decode cX1_markWanted 27 = .ok (.iload_n 1, 1) := by decide +kernel
theorem dX1_markWanted_28 : decode cX1_markWanted 28 = .ok (.istore_n 2, 1) := by decide +kernel
theorem dX1_markWanted_29 : decode cX1_markWanted 29 = .ok (.iload_n 2, 1) := by decide +kernel
theorem dX1_markWanted_30 : decode cX1_markWanted 30 = .ok (.ifCond .lt 74, 3) := by decide +kernel
theorem dX1_markWanted_33 : decode cX1_markWanted 33 = .ok (.aload_n 0, 1) := by decide +kernel
theorem dX1_markWanted_34 : decode cX1_markWanted 34 = .ok (.getfield 28, 3) := by decide +kernel
theorem dX1_markWanted_37 : decode cX1_markWanted 37 = .ok (.iload_n 2, 1) := by decide +kernel
theorem dX1_markWanted_38 : decode cX1_markWanted 38 = .ok (.invokevirtual 60, 3) := by decide +kernel
theorem dX1_markWanted_41 : decode cX1_markWanted 41 = .ok (.astore_n 3, 1) := by decide +kernel
theorem dX1_markWanted_42 : decode cX1_markWanted 42 = .ok (.aload_n 3, 1) := by decide +kernel
theorem dX1_markWanted_43 : decode cX1_markWanted 43 = .ok (.aload_n 0, 1) := by decide +kernel
theorem dX1_markWanted_44 : decode cX1_markWanted 44 = .ok (.getfield 38, 3) := by decide +kernel
theorem dX1_markWanted_47 : decode cX1_markWanted 47 = .ok (.iload_n 2, 1) := by decide +kernel
theorem dX1_markWanted_48 : decode cX1_markWanted 48 = .ok (.iaload, 1) := by decide +kernel
theorem dX1_markWanted_49 : decode cX1_markWanted 49 = .ok (.invokestatic 64, 3) := by decide +kernel
theorem dX1_markWanted_52 : decode cX1_markWanted 52 = .ok (.istore 4, 2) := by decide +kernel
theorem dX1_markWanted_54 : decode cX1_markWanted 54 = .ok (.aload_n 3, 1) := by decide +kernel
theorem dX1_markWanted_55 : decode cX1_markWanted 55 = .ok (.getfield 68, 3) := by decide +kernel
theorem dX1_markWanted_58 : decode cX1_markWanted 58 = .ok (.iconst (-1), 1) := by decide +kernel
theorem dX1_markWanted_59 : decode cX1_markWanted 59 = .ok (.if_icmp .eq 17, 3) := by decide +kernel
theorem dX1_markWanted_62 : decode cX1_markWanted 62 = .ok (.aload_n 0, 1) := by decide +kernel
theorem dX1_markWanted_63 : decode cX1_markWanted 63 = .ok (.getfield 38, 3) := by decide +kernel
theorem dX1_markWanted_66 : decode cX1_markWanted 66 = .ok (.aload_n 3, 1) := by decide +kernel
theorem dX1_markWanted_67 : decode cX1_markWanted 67 = .ok (.getfield 68, 3) := by decide +kernel
theorem dX1_markWanted_70 : decode cX1_markWanted 70 = .ok (.dup2, 1) := by decide +kernel
theorem dX1_markWanted_71 : decode cX1_markWanted 71 = .ok (.iaload, 1) := by decide +kernel
theorem dX1_markWanted_72 : decode cX1_markWanted 72 = .ok (.iload 4, 2) := by decide +kernel
theorem dX1_markWanted_74 : decode cX1_markWanted 74 = .ok (.ior, 1) := by decide +kernel
theorem dX1_markWanted_75 : decode cX1_markWanted 75 = .ok (.iastore, 1) := by decide +kernel
theorem dX1_markWanted_76 : decode cX1_markWanted 76 = .ok (.aload_n 3, 1) := by decide +kernel
theorem dX1_markWanted_77 : decode cX1_markWanted 77 = .ok (.getfield 74, 3) := by decide +kernel
theorem dX1_markWanted_80 : decode cX1_markWanted 80 = .ok (.iconst (-1), 1) := by decide +kernel
theorem dX1_markWanted_81 : decode cX1_markWanted 81 = .ok (.if_icmp .eq 17, 3) := by decide +kernel
theorem dX1_markWanted_84 : decode cX1_markWanted 84 = .ok (.aload_n 0, 1) := by decide +kernel
theorem dX1_markWanted_85 : decode cX1_markWanted 85 = .ok (.getfield 38, 3) := by decide +kernel
theorem dX1_markWanted_88 : decode cX1_markWanted 88 = .ok (.aload_n 3, 1) := by decide +kernel
theorem dX1_markWanted_89 : decode cX1_markWanted 89 = .ok (.getfield 74, 3) := by decide +kernel
theorem dX1_markWanted_92 : decode cX1_markWanted 92 = .ok (.dup2, 1) := by decide +kernel
theorem dX1_markWanted_93 : decode cX1_markWanted 93 = .ok (.iaload, 1) := by decide +kernel
theorem dX1_markWanted_94 : decode cX1_markWanted 94 = .ok (.iload 4, 2) := by decide +kernel
theorem dX1_markWanted_96 : decode cX1_markWanted 96 = .ok (.ior, 1) := by decide +kernel
theorem dX1_markWanted_97 : decode cX1_markWanted 97 = .ok (.iastore, 1) := by decide +kernel
theorem dX1_markWanted_98 : decode cX1_markWanted 98 = .ok (.iinc 2 (-1), 3) := by decide +kernel
theorem dX1_markWanted_101 : decode cX1_markWanted 101 = .ok (.goto (-72), 3) := by decide +kernel
theorem dX1_markWanted_104 : decode cX1_markWanted 104 = .ok (.return_, 1) := by decide +kernel
theorem dX1_graphsBelow_0 : decode cX1_graphsBelow 0 = .ok (.iload_n 1, 1) := by decide +kernel
theorem dX1_graphsBelow_1 : decode cX1_graphsBelow 1 = .ok (.ifCond .ne 5, 3) := by decide +kernel
theorem dX1_graphsBelow_4 : decode cX1_graphsBelow 4 = .ok (.iconst 0, 1) := by decide +kernel
theorem dX1_graphsBelow_5 : decode cX1_graphsBelow 5 = .ok (.ireturn, 1) := by decide +kernel
theorem dX1_graphsBelow_6 : decode cX1_graphsBelow 6 = .ok (.aload_n 0, 1) := by decide +kernel
theorem dX1_graphsBelow_7 : decode cX1_graphsBelow 7 = .ok (.getfield 77, 3) := by decide +kernel
theorem dX1_graphsBelow_10 : decode cX1_graphsBelow 10 = .ok (.lookupswitch 36 #[(12, 26), (13, 33)], 26) := by decide +kernel
theorem dX1_graphsBelow_36 : decode cX1_graphsBelow 36 = .ok (.iconst 1, 1) := by decide +kernel
theorem dX1_graphsBelow_37 : decode cX1_graphsBelow 37 = .ok (.aload_n 0, 1) := by decide +kernel
theorem dX1_graphsBelow_38 : decode cX1_graphsBelow 38 = .ok (.getfield 80, 3) := by decide +kernel
theorem dX1_graphsBelow_41 : decode cX1_graphsBelow 41 = .ok (.ishl, 1) := by decide +kernel
theorem dX1_graphsBelow_42 : decode cX1_graphsBelow 42 = .ok (.ireturn, 1) := by decide +kernel
theorem dX1_graphsBelow_43 : decode cX1_graphsBelow 43 = .ok (.bipush 14, 2) := by decide +kernel
theorem dX1_graphsBelow_45 : decode cX1_graphsBelow 45 = .ok (.ireturn, 1) := by decide +kernel
theorem dX1_graphsBelow_46 : decode cX1_graphsBelow 46 = .ok (.iload_n 1, 1) := by decide +kernel
theorem dX1_graphsBelow_47 : decode cX1_graphsBelow 47 = .ok (.ireturn, 1) := by decide +kernel
theorem dX1_tableOf_0 : decode cX1_tableOf 0 = .ok (.iload_n 1, 1) := by decide +kernel
theorem dX1_tableOf_1 : decode cX1_tableOf 1 = .ok (.iconst 4, 1) := by decide +kernel
theorem dX1_tableOf_2 : decode cX1_tableOf 2 = .ok (.imul, 1) := by decide +kernel
theorem dX1_tableOf_3 : decode cX1_tableOf 3 = .ok (.iload_n 2, 1) := by decide +kernel
theorem dX1_tableOf_4 : decode cX1_tableOf 4 = .ok (.iadd, 1) := by decide +kernel
theorem dX1_tableOf_5 : decode cX1_tableOf 5 = .ok (.istore_n 3, 1) := by decide +kernel
theorem dX1_tableOf_6 : decode cX1_tableOf 6 = .ok (.aload_n 0, 1) := by decide +kernel
theorem dX1_tableOf_7 : decode cX1_tableOf 7 = .ok (.getfield 34, 3) := by decide +kernel
theorem dX1_tableOf_10 : decode cX1_tableOf 10 = .ok (.iload_n 3, 1) := by decide +kernel
theorem dX1_tableOf_11 : decode cX1_tableOf 11 = .ok (.aaload, 1) := by decide +kernel
theorem dX1_tableOf_12 : decode cX1_tableOf 12 = .ok (.ifnonnull 16, 3) := by decide +kernel
theorem dX1_tableOf_15 : decode cX1_tableOf 15 = .ok (.aload_n 0, 1) := by decide +kernel
theorem dX1_tableOf_16 : decode cX1_tableOf 16 = .ok (.getfield 34, 3) := by decide +kernel
theorem dX1_tableOf_19 : decode cX1_tableOf 19 = .ok (.iload_n 3, 1) := by decide +kernel
theorem dX1_tableOf_20 : decode cX1_tableOf 20 = .ok (.new 32, 3) := by decide +kernel
theorem dX1_tableOf_23 : decode cX1_tableOf 23 = .ok (.dup, 1) := by decide +kernel
theorem dX1_tableOf_24 : decode cX1_tableOf 24 = .ok (.invokespecial 83, 3) := by decide +kernel
theorem dX1_tableOf_27 : decode cX1_tableOf 27 = .ok (.aastore, 1) := by decide +kernel
theorem dX1_tableOf_28 : decode cX1_tableOf 28 = .ok (.aload_n 0, 1) := by decide +kernel
theorem dX1_tableOf_29 : decode cX1_tableOf 29 = .ok (.getfield 34, 3) := by decide +kernel
theorem dX1_tableOf_32 : decode cX1_tableOf 32 = .ok (.iload_n 3, 1) := by decide +kernel
theorem dX1_tableOf_33 : decode cX1_tableOf 33 = .ok (.aaload, 1) := by decide +kernel
theorem dX1_tableOf_34 : decode cX1_tableOf 34 = .ok (.areturn, 1) := by decide +kernel
theorem dX1_refresh_0 : decode cX1_refresh 0 = .ok (.aload_n 0, 1) := by decide +kernel
theorem dX1_refresh_1 : decode cX1_refresh 1 = .ok (.iload_n 1, 1) := by decide +kernel
theorem dX1_refresh_2 : decode cX1_refresh 2 = .ok (.iload_n 2, 1) := by decide +kernel
theorem dX1_refresh_3 : decode cX1_refresh 3 = .ok (.invokevirtual 56, 3) := by decide +kernel
theorem dX1_refresh_6 : decode cX1_refresh 6 = .ok (.astore_n 3, 1) := by decide +kernel
theorem dX1_refresh_7 : decode cX1_refresh 7 = .ok (.aload_n 3, 1) := by decide +kernel
theorem dX1_refresh_8 : decode cX1_refresh 8 = .ok (.getfield 84, 3) := by decide +kernel
theorem dX1_refresh_11 : decode cX1_refresh 11 = .ok (.aload_n 0, 1) := by decide +kernel
theorem dX1_refresh_12 : decode cX1_refresh 12 = .ok (.getfield 12, 3) := by decide +kernel
theorem dX1_refresh_15 : decode cX1_refresh 15 = .ok (.getfield 87, 3) := by decide +kernel
theorem dX1_refresh_18 : decode cX1_refresh 18 = .ok (.if_icmp .ne 4, 3) := by decide +kernel
theorem dX1_refresh_21 : decode cX1_refresh 21 = .ok (.return_, 1) := by decide +kernel
theorem dX1_refresh_22 : decode cX1_refresh 22 = .ok (.aload_n 3, 1) := by decide +kernel
theorem dX1_refresh_23 : decode cX1_refresh 23 = .ok (.invokevirtual 90, 3) := by decide +kernel
theorem dX1_refresh_26 : decode cX1_refresh 26 = .ok (.aload_n 3, 1) := by decide +kernel
theorem dX1_refresh_27 : decode cX1_refresh 27 = .ok (.aload_n 0, 1) := by decide +kernel
theorem dX1_refresh_28 : decode cX1_refresh 28 = .ok (.getfield 12, 3) := by decide +kernel
theorem dX1_refresh_31 : decode cX1_refresh 31 = .ok (.getfield 87, 3) := by decide +kernel
theorem dX1_refresh_34 : decode cX1_refresh 34 = .ok (.putfield 84, 3) := by decide +kernel
theorem dX1_refresh_37 : decode cX1_refresh 37 = .ok (.aload_n 0, 1) := by decide +kernel
theorem dX1_refresh_38 : decode cX1_refresh 38 = .ok (.getfield 28, 3) := by decide +kernel
theorem dX1_refresh_41 : decode cX1_refresh 41 = .ok (.iload_n 1, 1) := by decide +kernel
theorem dX1_refresh_42 : decode cX1_refresh 42 = .ok (.invokevirtual 60, 3) := by decide +kernel
theorem dX1_refresh_45 : decode cX1_refresh 45 = .ok (.astore 4, 2) := by decide +kernel
theorem dX1_refresh_47 : decode cX1_refresh 47 = .ok (.aload 4, 2) := by decide +kernel
theorem dX1_refresh_49 : decode cX1_refresh 49 = .ok (.getfield 77, 3) := by decide +kernel
theorem dX1_refresh_52 : decode cX1_refresh 52 = .ok (.bipush 12, 2) := by decide +kernel
theorem dX1_refresh_54 : decode cX1_refresh 54 = .ok (.if_icmp .ne 11, 3) := by decide +kernel
theorem dX1_refresh_57 : decode cX1_refresh 57 = .ok (.aload 4, 2) := by decide +kernel
theorem dX1_refresh_59 : decode cX1_refresh 59 = .ok (.getfield 80, 3) := by decide +kernel
theorem dX1_refresh_62 : decode cX1_refresh 62 = .ok (.goto 4, 3) := by decide +kernel
theorem dX1_refresh_65 : decode cX1_refresh 65 = .ok (.iload_n 2, 1) := by decide +kernel
theorem dX1_refresh_66 : decode cX1_refresh 66 = .ok (.istore 5, 2) := by decide +kernel
theorem dX1_refresh_68 : decode cX1_refresh 68 = .ok (.aload 4, 2) := by decide +kernel
theorem dX1_refresh_70 : decode cX1_refresh 70 = .ok (.getfield 77, 3) := by decide +kernel
theorem dX1_refresh_73 : decode cX1_refresh 73 = .ok (.ifCond .ne 14, 3) := by decide +kernel
theorem dX1_refresh_76 : decode cX1_refresh 76 = .ok (.aload_n 0, 1) := by decide +kernel
theorem dX1_refresh_77 : decode cX1_refresh 77 = .ok (.aload 4, 2) := by decide +kernel
theorem dX1_refresh_79 : decode cX1_refresh 79 = .ok (.iload_n 2, 1) := by decide +kernel
theorem dX1_refresh_80 : decode cX1_refresh 80 = .ok (.aload_n 3, 1) := by decide +kernel
theorem dX1_refresh_81 : decode cX1_refresh 81 = .ok (.invokevirtual 93, 3) := by decide +kernel
theorem dX1_refresh_84 : decode cX1_refresh 84 = .ok (.goto 82, 3) := by decide +kernel
theorem dX1_refresh_87 : decode cX1_refresh 87 = .ok (.aload 4, 2) := by decide +kernel
theorem dX1_refresh_89 : decode cX1_refresh 89 = .ok (.getfield 77, 3) := by decide +kernel
theorem dX1_refresh_92 : decode cX1_refresh 92 = .ok (.bipush 13, 2) := by decide +kernel
theorem dX1_refresh_94 : decode cX1_refresh 94 = .ok (.if_icmp .ne 13, 3) := by decide +kernel
theorem dX1_refresh_97 : decode cX1_refresh 97 = .ok (.aload_n 0, 1) := by decide +kernel
theorem dX1_refresh_98 : decode cX1_refresh 98 = .ok (.aload 4, 2) := by decide +kernel
theorem dX1_refresh_100 : decode cX1_refresh 100 = .ok (.aload_n 3, 1) := by decide +kernel
theorem dX1_refresh_101 : decode cX1_refresh 101 = .ok (.invokevirtual 97, 3) := by decide +kernel
theorem dX1_refresh_104 : decode cX1_refresh 104 = .ok (.goto 62, 3) := by decide +kernel
theorem dX1_refresh_107 : decode cX1_refresh 107 = .ok (.aload 4, 2) := by decide +kernel
theorem dX1_refresh_109 : decode cX1_refresh 109 = .ok (.getfield 74, 3) := by decide +kernel
theorem dX1_refresh_112 : decode cX1_refresh 112 = .ok (.iconst (-1), 1) := by decide +kernel
theorem dX1_refresh_113 : decode cX1_refresh 113 = .ok (.if_icmp .ne 24, 3) := by decide +kernel
theorem dX1_refresh_116 : decode cX1_refresh 116 = .ok (.aload_n 0, 1) := by decide +kernel
theorem dX1_refresh_117 : decode cX1_refresh 117 = .ok (.aload 4, 2) := by decide +kernel
theorem dX1_refresh_119 : decode cX1_refresh 119 = .ok (.aload_n 0, 1) := by decide +kernel
theorem dX1_refresh_120 : decode cX1_refresh 120 = .ok (.aload 4, 2) := by decide +kernel
theorem dX1_refresh_122 : decode cX1_refresh 122 = .ok (.getfield 68, 3) := by decide +kernel
theorem dX1_refresh_125 : decode cX1_refresh 125 = .ok (.iload 5, 2) := by decide +kernel
theorem dX1_refresh_127 : decode cX1_refresh 127 = .ok (.invokevirtual 56, 3) := by decide +kernel
theorem dX1_refresh_130 : decode cX1_refresh 130 = .ok (.aload_n 3, 1) := by decide +kernel
theorem dX1_refresh_131 : decode cX1_refresh 131 = .ok (.invokevirtual 101, 3) := by decide +kernel
theorem dX1_refresh_134 : decode cX1_refresh 134 = .ok (.goto 32, 3) := by decide +kernel
theorem dX1_refresh_137 : decode cX1_refresh 137 = .ok (.aload_n 0, 1) := by decide +kernel
theorem dX1_refresh_138 : decode cX1_refresh 138 = .ok (.aload 4, 2) := by decide +kernel
theorem dX1_refresh_140 : decode cX1_refresh 140 = .ok (.aload_n 0, 1) := by decide +kernel
theorem dX1_refresh_141 : decode cX1_refresh 141 = .ok (.aload 4, 2) := by decide +kernel
theorem dX1_refresh_143 : decode cX1_refresh 143 = .ok (.getfield 68, 3) := by decide +kernel
theorem dX1_refresh_146 : decode cX1_refresh 146 = .ok (.iload 5, 2) := by decide +kernel
theorem dX1_refresh_148 : decode cX1_refresh 148 = .ok (.invokevirtual 56, 3) := by decide +kernel
theorem dX1_refresh_151 : decode cX1_refresh 151 = .ok (.aload_n 0, 1) := by decide +kernel
theorem dX1_refresh_152 : decode cX1_refresh 152 = .ok (.aload 4, 2) := by decide +kernel
theorem dX1_refresh_154 : decode cX1_refresh 154 = .ok (.getfield 74, 3) := by decide +kernel
theorem dX1_refresh_157 : decode cX1_refresh 157 = .ok (.iload 5, 2) := by decide +kernel
theorem dX1_refresh_159 : decode cX1_refresh 159 = .ok (.invokevirtual 56, 3) := by decide +kernel
theorem dX1_refresh_162 : decode cX1_refresh 162 = .ok (.aload_n 3, 1) := by decide +kernel
theorem dX1_refresh_163 : decode cX1_refresh 163 = .ok (.invokevirtual 105, 3) := by decide +kernel
theorem dX1_refresh_166 : decode cX1_refresh 166 = .ok (.return_, 1) := by decide +kernel
theorem dX1_makeOverOne_0 : decode cX1_makeOverOne 0 = .ok (.aload_n 2, 1) := by decide +kernel
theorem dX1_makeOverOne_1 : decode cX1_makeOverOne 1 = .ok (.getfield 109, 3) := by decide +kernel
theorem dX1_makeOverOne_4 : decode cX1_makeOverOne 4 = .ok (.ifCond .eq 9, 3) := by decide +kernel
theorem dX1_makeOverOne_7 : decode cX1_makeOverOne 7 = .ok (.aload_n 3, 1) := by decide +kernel
theorem dX1_makeOverOne_8 : decode cX1_makeOverOne 8 = .ok (.iconst 1, 1) := by decide +kernel
theorem dX1_makeOverOne_9 : decode cX1_makeOverOne 9 = .ok (.putfield 109, 3) := by decide +kernel
theorem dX1_makeOverOne_12 : decode cX1_makeOverOne 12 = .ok (.return_, 1) := by decide +kernel
theorem dX1_makeOverOne_13 : decode cX1_makeOverOne 13 = .ok (.aload_n 1, 1) := by decide +kernel
theorem dX1_makeOverOne_14 : decode cX1_makeOverOne 14 = .ok (.getfield 77, 3) := by decide +kernel
theorem dX1_makeOverOne_17 : decode cX1_makeOverOne 17 = .ok (.tableswitch 132 5 11 #[43, 53, 63, 72, 82, 91, 107], 43) := by decide +kernel
theorem dX1_makeOverOne_60 : decode cX1_makeOverOne 60 = .ok (.aload_n 0, 1) := by decide +kernel
theorem dX1_makeOverOne_61 : decode cX1_makeOverOne 61 = .ok (.aload_n 1, 1) := by decide +kernel
theorem dX1_makeOverOne_62 : decode cX1_makeOverOne 62 = .ok (.aload_n 2, 1) := by decide +kernel
theorem dX1_makeOverOne_63 : decode cX1_makeOverOne 63 = .ok (.aload_n 3, 1) := by decide +kernel
theorem dX1_makeOverOne_64 : decode cX1_makeOverOne 64 = .ok (.invokevirtual 113, 3) := by decide +kernel
theorem dX1_makeOverOne_67 : decode cX1_makeOverOne 67 = .ok (.goto 87, 3) := by decide +kernel
theorem dX1_makeOverOne_70 : decode cX1_makeOverOne 70 = .ok (.aload_n 0, 1) := by decide +kernel
theorem dX1_makeOverOne_71 : decode cX1_makeOverOne 71 = .ok (.aload_n 1, 1) := by decide +kernel
theorem dX1_makeOverOne_72 : decode cX1_makeOverOne 72 = .ok (.aload_n 2, 1) := by decide +kernel
theorem dX1_makeOverOne_73 : decode cX1_makeOverOne 73 = .ok (.aload_n 3, 1) := by decide +kernel
theorem dX1_makeOverOne_74 : decode cX1_makeOverOne 74 = .ok (.invokevirtual 116, 3) := by decide +kernel
theorem dX1_makeOverOne_77 : decode cX1_makeOverOne 77 = .ok (.goto 77, 3) := by decide +kernel
theorem dX1_makeOverOne_80 : decode cX1_makeOverOne 80 = .ok (.aload_n 1, 1) := by decide +kernel
theorem dX1_makeOverOne_81 : decode cX1_makeOverOne 81 = .ok (.aload_n 2, 1) := by decide +kernel
theorem dX1_makeOverOne_82 : decode cX1_makeOverOne 82 = .ok (.aload_n 3, 1) := by decide +kernel
theorem dX1_makeOverOne_83 : decode cX1_makeOverOne 83 = .ok (.invokestatic 119, 3) := by decide +kernel
theorem dX1_makeOverOne_86 : decode cX1_makeOverOne 86 = .ok (.goto 68, 3) := by decide +kernel
theorem dX1_makeOverOne_89 : decode cX1_makeOverOne 89 = .ok (.aload_n 2, 1) := by decide +kernel
theorem dX1_makeOverOne_90 : decode cX1_makeOverOne 90 = .ok (.bipush 63, 2) := by decide +kernel
theorem dX1_makeOverOne_92 : decode cX1_makeOverOne 92 = .ok (.aload_n 3, 1) := by decide +kernel
theorem dX1_makeOverOne_93 : decode cX1_makeOverOne 93 = .ok (.invokestatic 122, 3) := by decide +kernel
theorem dX1_makeOverOne_96 : decode cX1_makeOverOne 96 = .ok (.goto 58, 3) := by decide +kernel
theorem dX1_makeOverOne_99 : decode cX1_makeOverOne 99 = .ok (.aload_n 1, 1) := by decide +kernel
theorem dX1_makeOverOne_100 : decode cX1_makeOverOne 100 = .ok (.aload_n 2, 1) := by decide +kernel
theorem dX1_makeOverOne_101 : decode cX1_makeOverOne 101 = .ok (.aload_n 3, 1) := by decide +kernel
theorem dX1_makeOverOne_102 : decode cX1_makeOverOne 102 = .ok (.invokestatic 126, 3) := by decide +kernel
theorem dX1_makeOverOne_105 : decode cX1_makeOverOne 105 = .ok (.goto 49, 3) := by decide +kernel
theorem dX1_makeOverOne_108 : decode cX1_makeOverOne 108 = .ok (.aload_n 0, 1) := by decide +kernel
theorem dX1_makeOverOne_109 : decode cX1_makeOverOne 109 = .ok (.aload_n 1, 1) := by decide +kernel
theorem dX1_makeOverOne_110 : decode cX1_makeOverOne 110 = .ok (.aload_n 2, 1) := by decide +kernel
theorem dX1_makeOverOne_111 : decode cX1_makeOverOne 111 = .ok (.invokevirtual 129, 3) := by decide +kernel
theorem dX1_makeOverOne_114 : decode cX1_makeOverOne 114 = .ok (.aload_n 0, 1) := by decide +kernel
theorem dX1_makeOverOne_115 : decode cX1_makeOverOne 115 = .ok (.aload_n 1, 1) := by decide +kernel
theorem dX1_makeOverOne_116 : decode cX1_makeOverOne 116 = .ok (.aload_n 2, 1) := by decide +kernel
theorem dX1_makeOverOne_117 : decode cX1_makeOverOne 117 = .ok (.aload_n 3, 1) := by decide +kernel
theorem dX1_makeOverOne_118 : decode cX1_makeOverOne 118 = .ok (.invokevirtual 132, 3) := by decide +kernel
theorem dX1_makeOverOne_121 : decode cX1_makeOverOne 121 = .ok (.goto 33, 3) := by decide +kernel
theorem dX1_makeOverOne_124 : decode cX1_makeOverOne 124 = .ok (.aload_n 0, 1) := by decide +kernel
theorem dX1_makeOverOne_125 : decode cX1_makeOverOne 125 = .ok (.aload_n 1, 1) := by decide +kernel
theorem dX1_makeOverOne_126 : decode cX1_makeOverOne 126 = .ok (.aload_n 2, 1) := by decide +kernel
theorem dX1_makeOverOne_127 : decode cX1_makeOverOne 127 = .ok (.invokevirtual 129, 3) := by decide +kernel
theorem dX1_makeOverOne_130 : decode cX1_makeOverOne 130 = .ok (.aload_n 2, 1) := by decide +kernel
theorem dX1_makeOverOne_131 : decode cX1_makeOverOne 131 = .ok (.aload_n 1, 1) := by decide +kernel
theorem dX1_makeOverOne_132 : decode cX1_makeOverOne 132 = .ok (.getfield 135, 3) := by decide +kernel
theorem dX1_makeOverOne_135 : decode cX1_makeOverOne 135 = .ok (.aload_n 3, 1) := by decide +kernel
theorem dX1_makeOverOne_136 : decode cX1_makeOverOne 136 = .ok (.invokestatic 122, 3) := by decide +kernel
theorem dX1_makeOverOne_139 : decode cX1_makeOverOne 139 = .ok (.aload_n 0, 1) := by decide +kernel
theorem dX1_makeOverOne_140 : decode cX1_makeOverOne 140 = .ok (.aload_n 1, 1) := by decide +kernel
theorem dX1_makeOverOne_141 : decode cX1_makeOverOne 141 = .ok (.aload_n 2, 1) := by decide +kernel
theorem dX1_makeOverOne_142 : decode cX1_makeOverOne 142 = .ok (.aload_n 3, 1) := by decide +kernel
theorem dX1_makeOverOne_143 : decode cX1_makeOverOne 143 = .ok (.invokevirtual 138, 3) := by decide +kernel
theorem dX1_makeOverOne_146 : decode cX1_makeOverOne 146 = .ok (.goto 8, 3) := by decide +kernel
theorem dX1_makeOverOne_149 : decode cX1_makeOverOne 149 = .ok (.aload_n 3, 1) := by decide +kernel
theorem dX1_makeOverOne_150 : decode cX1_makeOverOne 150 = .ok (.aload_n 2, 1) := by decide +kernel
theorem dX1_makeOverOne_151 : decode cX1_makeOverOne 151 = .ok (.invokevirtual 141, 3) := by decide +kernel
theorem dX1_makeOverOne_154 : decode cX1_makeOverOne 154 = .ok (.return_, 1) := by decide +kernel
theorem dX1_makeOverTwo_0 : decode cX1_makeOverTwo 0 = .ok (.aload_n 2, 1) := by decide +kernel
theorem dX1_makeOverTwo_1 : decode cX1_makeOverTwo 1 = .ok (.getfield 109, 3) := by decide +kernel
theorem dX1_makeOverTwo_4 : decode cX1_makeOverTwo 4 = .ok (.ifCond .ne 10, 3) := by decide +kernel
theorem dX1_makeOverTwo_7 : decode cX1_makeOverTwo 7 = .ok (.aload_n 3, 1) := by decide +kernel
theorem dX1_makeOverTwo_8 : decode cX1_makeOverTwo 8 = .ok (.getfield 109, 3) := by decide +kernel
theorem dX1_makeOverTwo_11 : decode cX1_makeOverTwo 11 = .ok (.ifCond .eq 10, 3) := by decide +kernel
theorem dX1_makeOverTwo_14 : decode cX1_makeOverTwo 14 = .ok (.aload 4, 2) := by decide +kernel
theorem dX1_makeOverTwo_16 : decode cX1_makeOverTwo 16 = .ok (.iconst 1, 1) := by decide +kernel
theorem dX1_makeOverTwo_17 : decode cX1_makeOverTwo 17 = .ok (.putfield 109, 3) := by decide +kernel
theorem dX1_makeOverTwo_20 : decode cX1_makeOverTwo 20 = .ok (.return_, 1) := by decide +kernel
theorem dX1_makeOverTwo_21 : decode cX1_makeOverTwo 21 = .ok (.aload_n 1, 1) := by decide +kernel
theorem dX1_makeOverTwo_22 : decode cX1_makeOverTwo 22 = .ok (.getfield 77, 3) := by decide +kernel
theorem dX1_makeOverTwo_25 : decode cX1_makeOverTwo 25 = .ok (.tableswitch 62 1 3 #[27, 37, 52], 27) := by decide +kernel
theorem dX1_makeOverTwo_52 : decode cX1_makeOverTwo 52 = .ok (.aload_n 2, 1) := by decide +kernel
theorem dX1_makeOverTwo_53 : decode cX1_makeOverTwo 53 = .ok (.aload_n 3, 1) := by decide +kernel
theorem dX1_makeOverTwo_54 : decode cX1_makeOverTwo 54 = .ok (.aload 4, 2) := by decide +kernel
theorem dX1_makeOverTwo_56 : decode cX1_makeOverTwo 56 = .ok (.invokestatic 145, 3) := by decide +kernel
theorem dX1_makeOverTwo_59 : decode cX1_makeOverTwo 59 = .ok (.goto 37, 3) := by decide +kernel
theorem dX1_makeOverTwo_62 : decode cX1_makeOverTwo 62 = .ok (.aload 4, 2) := by decide +kernel
theorem dX1_makeOverTwo_64 : decode cX1_makeOverTwo 64 = .ok (.aload_n 2, 1) := by decide +kernel
theorem dX1_makeOverTwo_65 : decode cX1_makeOverTwo 65 = .ok (.invokevirtual 141, 3) := by decide +kernel
theorem dX1_makeOverTwo_68 : decode cX1_makeOverTwo 68 = .ok (.aload 4, 2) := by decide +kernel
theorem dX1_makeOverTwo_70 : decode cX1_makeOverTwo 70 = .ok (.aload_n 3, 1) := by decide +kernel
theorem dX1_makeOverTwo_71 : decode cX1_makeOverTwo 71 = .ok (.invokevirtual 141, 3) := by decide +kernel
theorem dX1_makeOverTwo_74 : decode cX1_makeOverTwo 74 = .ok (.goto 22, 3) := by decide +kernel
theorem dX1_makeOverTwo_77 : decode cX1_makeOverTwo 77 = .ok (.aload_n 2, 1) := by decide +kernel
theorem dX1_makeOverTwo_78 : decode cX1_makeOverTwo 78 = .ok (.aload_n 3, 1) := by decide +kernel
theorem dX1_makeOverTwo_79 : decode cX1_makeOverTwo 79 = .ok (.aload 4, 2) := by decide +kernel
theorem dX1_makeOverTwo_81 : decode cX1_makeOverTwo 81 = .ok (.invokestatic 149, 3) := by decide +kernel
theorem dX1_makeOverTwo_84 : decode cX1_makeOverTwo 84 = .ok (.goto 12, 3) := by decide +kernel
theorem dX1_makeOverTwo_87 : decode cX1_makeOverTwo 87 = .ok (.aload_n 0, 1) := by decide +kernel
theorem dX1_makeOverTwo_88 : decode cX1_makeOverTwo 88 = .ok (.aload_n 1, 1) := by decide +kernel
theorem dX1_makeOverTwo_89 : decode cX1_makeOverTwo 89 = .ok (.aload_n 2, 1) := by decide +kernel
theorem dX1_makeOverTwo_90 : decode cX1_makeOverTwo 90 = .ok (.aload_n 3, 1) := by decide +kernel
theorem dX1_makeOverTwo_91 : decode cX1_makeOverTwo 91 = .ok (.aload 4, 2) := by decide +kernel
theorem dX1_makeOverTwo_93 : decode cX1_makeOverTwo 93 = .ok (.invokevirtual 152, 3) := by decide +kernel
theorem dX1_makeOverTwo_96 : decode cX1_makeOverTwo 96 = .ok (.return_, 1) := by decide +kernel
theorem dX1_makePattern_0 : decode cX1_makePattern 0 = .ok (.iconst 0, 1) := by decide +kernel
theorem dX1_makePattern_1 : decode cX1_makePattern 1 = .ok (.istore 4, 2) := by decide +kernel
theorem dX1_makePattern_3 : decode cX1_makePattern 3 = .ok (.iload 4, 2) := by decide +kernel
theorem dX1_makePattern_5 : decode cX1_makePattern 5 = .ok (.aload_n 0, 1) := by decide +kernel
theorem dX1_makePattern_6 : decode cX1_makePattern 6 = .ok (.getfield 12, 3) := by decide +kernel
theorem dX1_makePattern_9 : decode cX1_makePattern 9 = .ok (.getfield 87, 3) := by decide +kernel
theorem dX1_makePattern_12 : decode cX1_makePattern 12 = .ok (.if_icmp .ge 97, 3) := by decide +kernel
theorem dX1_makePattern_15 : decode cX1_makePattern 15 = .ok (.aload_n 0, 1) := by decide +kernel
theorem dX1_makePattern_16 : decode cX1_makePattern 16 = .ok (.getfield 12, 3) := by decide +kernel
theorem dX1_makePattern_19 : decode cX1_makePattern 19 = .ok (.getfield 155, 3) := by decide +kernel
theorem dX1_makePattern_22 : decode cX1_makePattern 22 = .ok (.iload 4, 2) := by decide +kernel
theorem dX1_makePattern_24 : decode cX1_makePattern 24 = .ok (.iaload, 1) := by decide +kernel
theorem dX1_makePattern_25 : decode cX1_makePattern 25 = .ok (.iload_n 2, 1) := by decide +kernel
theorem dX1_makePattern_26 : decode cX1_makePattern 26 = .ok (.if_icmp .eq 6, 3) := by decide +kernel
theorem dX1_makePattern_29 : decode cX1_makePattern 29 = .ok (.goto 74, 3) := by decide +kernel
theorem dX1_makePattern_32 : decode cX1_makePattern 32 = .ok (.aload_n 3, 1) := by decide +kernel
theorem dX1_makePattern_33 : decode cX1_makePattern 33 = .ok (.invokevirtual 157, 3) := by decide +kernel
theorem dX1_makePattern_36 : decode cX1_makePattern 36 = .ok (.aload_n 1, 1) := by decide +kernel
theorem dX1_makePattern_37 : decode cX1_makePattern 37 = .ok (.getfield 160, 3) := by decide +kernel
theorem dX1_makePattern_40 : decode cX1_makePattern 40 = .ok (.aload_n 0, 1) := by decide +kernel
theorem dX1_makePattern_41 : decode cX1_makePattern 41 = .ok (.getfield 12, 3) := by decide +kernel
theorem dX1_makePattern_44 : decode cX1_makePattern 44 = .ok (.getfield 163, 3) := by decide +kernel
theorem dX1_makePattern_47 : decode cX1_makePattern 47 = .ok (.iload 4, 2) := by decide +kernel
theorem dX1_makePattern_49 : decode cX1_makePattern 49 = .ok (.iaload, 1) := by decide +kernel
theorem dX1_makePattern_50 : decode cX1_makePattern 50 = .ok (.aload_n 3, 1) := by decide +kernel
theorem dX1_makePattern_51 : decode cX1_makePattern 51 = .ok (.invokestatic 165, 3) := by decide +kernel
theorem dX1_makePattern_54 : decode cX1_makePattern 54 = .ok (.ifCond .eq 49, 3) := by decide +kernel
theorem dX1_makePattern_57 : decode cX1_makePattern 57 = .ok (.aload_n 1, 1) := by decide +kernel
theorem dX1_makePattern_58 : decode cX1_makePattern 58 = .ok (.getfield 169, 3) := by decide +kernel
theorem dX1_makePattern_61 : decode cX1_makePattern 61 = .ok (.aload_n 0, 1) := by decide +kernel
theorem dX1_makePattern_62 : decode cX1_makePattern 62 = .ok (.getfield 12, 3) := by decide +kernel
theorem dX1_makePattern_65 : decode cX1_makePattern 65 = .ok (.getfield 172, 3) := by decide +kernel
theorem dX1_makePattern_68 : decode cX1_makePattern 68 = .ok (.iload 4, 2) := by decide +kernel
theorem dX1_makePattern_70 : decode cX1_makePattern 70 = .ok (.iaload, 1) := by decide +kernel
theorem dX1_makePattern_71 : decode cX1_makePattern 71 = .ok (.aload_n 3, 1) := by decide +kernel
theorem dX1_makePattern_72 : decode cX1_makePattern 72 = .ok (.invokestatic 165, 3) := by decide +kernel
theorem dX1_makePattern_75 : decode cX1_makePattern 75 = .ok (.ifCond .eq 28, 3) := by decide +kernel
theorem dX1_makePattern_78 : decode cX1_makePattern 78 = .ok (.aload_n 1, 1) := by decide +kernel
theorem dX1_makePattern_79 : decode cX1_makePattern 79 = .ok (.getfield 174, 3) := by decide +kernel
theorem dX1_makePattern_82 : decode cX1_makePattern 82 = .ok (.aload_n 0, 1) := by decide +kernel
theorem dX1_makePattern_83 : decode cX1_makePattern 83 = .ok (.getfield 12, 3) := by decide +kernel
theorem dX1_makePattern_86 : decode cX1_makePattern 86 = .ok (.getfield 177, 3) := by decide +kernel
theorem dX1_makePattern_89 : decode cX1_makePattern 89 = .ok (.iload 4, 2) := by decide +kernel
theorem dX1_makePattern_91 : decode cX1_makePattern 91 = .ok (.iaload, 1) := by decide +kernel
theorem dX1_makePattern_92 : decode cX1_makePattern 92 = .ok (.aload_n 3, 1) := by decide +kernel
theorem dX1_makePattern_93 : decode cX1_makePattern 93 = .ok (.invokestatic 165, 3) := by decide +kernel
theorem dX1_makePattern_96 : decode cX1_makePattern 96 = .ok (.ifCond .eq 7, 3) := by decide +kernel
theorem dX1_makePattern_99 : decode cX1_makePattern 99 = .ok (.aload_n 3, 1) := by decide +kernel
theorem dX1_makePattern_100 : decode cX1_makePattern 100 = .ok (.invokevirtual 179, 3) := by decide +kernel
theorem dX1_makePattern_103 : decode cX1_makePattern 103 = .ok (.iinc 4 1, 3) := by decide +kernel
theorem dX1_makePattern_106 : decode cX1_makePattern 106 = .ok (.goto (-103), 3) := by decide +kernel
theorem dX1_makePattern_109 : decode cX1_makePattern 109 = .ok (.return_, 1) := by decide +kernel
theorem dX1_fits_0 : decode cX1_fits 0 = .ok (.iload_n 0, 1) := by decide +kernel
theorem dX1_fits_1 : decode cX1_fits 1 = .ok (.ifCond .lt 16, 3) := by decide +kernel
theorem dX1_fits_4 : decode cX1_fits 4 = .ok (.iload_n 0, 1) := by decide +kernel
theorem dX1_fits_5 : decode cX1_fits 5 = .ok (.iload_n 1, 1) := by decide +kernel
theorem dX1_fits_6 : decode cX1_fits 6 = .ok (.if_icmp .ne 7, 3) := by decide +kernel
theorem dX1_fits_9 : decode cX1_fits 9 = .ok (.iconst 1, 1) := by decide +kernel
theorem dX1_fits_10 : decode cX1_fits 10 = .ok (.goto 15, 3) := by decide +kernel
theorem dX1_fits_13 : decode cX1_fits 13 = .ok (.iconst 0, 1) := by decide +kernel
theorem dX1_fits_14 : decode cX1_fits 14 = .ok (.goto 11, 3) := by decide +kernel
theorem dX1_fits_17 : decode cX1_fits 17 = .ok (.aload_n 2, 1) := by decide +kernel
theorem dX1_fits_18 : decode cX1_fits 18 = .ok (.iconst (-1), 1) := by decide +kernel
theorem dX1_fits_19 : decode cX1_fits 19 = .ok (.iload_n 0, 1) := by decide +kernel
theorem dX1_fits_20 : decode cX1_fits 20 = .ok (.isub, 1) := by decide +kernel
theorem dX1_fits_21 : decode cX1_fits 21 = .ok (.iload_n 1, 1) := by decide +kernel
theorem dX1_fits_22 : decode cX1_fits 22 = .ok (.invokevirtual 182, 3) := by decide +kernel
theorem dX1_fits_25 : decode cX1_fits 25 = .ok (.ireturn, 1) := by decide +kernel
theorem dX1_makeEachGraph_0 : decode cX1_makeEachGraph 0 = .ok (.iconst 1, 1) := by decide +kernel
theorem dX1_makeEachGraph_1 : decode cX1_makeEachGraph 1 = .ok (.istore_n 3, 1) := by decide +kernel
theorem dX1_makeEachGraph_2 : decode cX1_makeEachGraph 2 = .ok (.iload_n 3, 1) := by decide +kernel
theorem dX1_makeEachGraph_3 : decode cX1_makeEachGraph 3 = .ok (.iconst 4, 1) := by decide +kernel
theorem dX1_makeEachGraph_4 : decode cX1_makeEachGraph 4 = .ok (.if_icmp .ge 79, 3) := by decide +kernel
theorem dX1_makeEachGraph_7 : decode cX1_makeEachGraph 7 = .ok (.aload_n 0, 1) := by decide +kernel
theorem dX1_makeEachGraph_8 : decode cX1_makeEachGraph 8 = .ok (.aload_n 1, 1) := by decide +kernel
theorem dX1_makeEachGraph_9 : decode cX1_makeEachGraph 9 = .ok (.getfield 68, 3) := by decide +kernel
theorem dX1_makeEachGraph_12 : decode cX1_makeEachGraph 12 = .ok (.iload_n 3, 1) := by decide +kernel
theorem dX1_makeEachGraph_13 : decode cX1_makeEachGraph 13 = .ok (.invokevirtual 56, 3) := by decide +kernel
theorem dX1_makeEachGraph_16 : decode cX1_makeEachGraph 16 = .ok (.astore 4, 2) := by decide +kernel
theorem dX1_makeEachGraph_18 : decode cX1_makeEachGraph 18 = .ok (.aload 4, 2) := by decide +kernel
theorem dX1_makeEachGraph_20 : decode cX1_makeEachGraph 20 = .ok (.getfield 109, 3) := by decide +kernel
theorem dX1_makeEachGraph_23 : decode cX1_makeEachGraph 23 = .ok (.ifCond .eq 9, 3) := by decide +kernel
theorem dX1_makeEachGraph_26 : decode cX1_makeEachGraph 26 = .ok (.aload_n 2, 1) := by decide +kernel
theorem dX1_makeEachGraph_27 : decode cX1_makeEachGraph 27 = .ok (.iconst 1, 1) := by decide +kernel
theorem dX1_makeEachGraph_28 : decode cX1_makeEachGraph 28 = .ok (.putfield 109, 3) := by decide +kernel
theorem dX1_makeEachGraph_31 : decode cX1_makeEachGraph 31 = .ok (.return_, 1) := by decide +kernel
theorem dX1_makeEachGraph_32 : decode cX1_makeEachGraph 32 = .ok (.iconst 0, 1) := by decide +kernel
theorem dX1_makeEachGraph_33 : decode cX1_makeEachGraph 33 = .ok (.istore 5, 2) := by decide +kernel
theorem dX1_makeEachGraph_35 : decode cX1_makeEachGraph 35 = .ok (.iload 5, 2) := by decide +kernel
theorem dX1_makeEachGraph_37 : decode cX1_makeEachGraph 37 = .ok (.aload 4, 2) := by decide +kernel
theorem dX1_makeEachGraph_39 : decode cX1_makeEachGraph 39 = .ok (.getfield 186, 3) := by decide +kernel
theorem dX1_makeEachGraph_42 : decode cX1_makeEachGraph 42 = .ok (.if_icmp .ge 35, 3) := by decide +kernel
theorem dX1_makeEachGraph_45 : decode cX1_makeEachGraph 45 = .ok (.aload_n 2, 1) := by decide +kernel
theorem dX1_makeEachGraph_46 : decode cX1_makeEachGraph 46 = .ok (.aload 4, 2) := by decide +kernel
theorem dX1_makeEachGraph_48 : decode cX1_makeEachGraph 48 = .ok (.iload 5, 2) := by decide +kernel
theorem dX1_makeEachGraph_50 : decode cX1_makeEachGraph 50 = .ok (.bipush 63, 2) := by decide +kernel
theorem dX1_makeEachGraph_52 : decode cX1_makeEachGraph 52 = .ok (.invokevirtual 187, 3) := by decide +kernel
theorem dX1_makeEachGraph_55 : decode cX1_makeEachGraph 55 = .ok (.aload_n 2, 1) := by decide +kernel
theorem dX1_makeEachGraph_56 : decode cX1_makeEachGraph 56 = .ok (.aload_n 1, 1) := by decide +kernel
theorem dX1_makeEachGraph_57 : decode cX1_makeEachGraph 57 = .ok (.getfield 191, 3) := by decide +kernel
theorem dX1_makeEachGraph_60 : decode cX1_makeEachGraph 60 = .ok (.iload_n 3, 1) := by decide +kernel
theorem dX1_makeEachGraph_61 : decode cX1_makeEachGraph 61 = .ok (.invokevirtual 182, 3) := by decide +kernel
theorem dX1_makeEachGraph_64 : decode cX1_makeEachGraph 64 = .ok (.ifCond .eq 7, 3) := by decide +kernel
theorem dX1_makeEachGraph_67 : decode cX1_makeEachGraph 67 = .ok (.aload_n 2, 1) := by decide +kernel
theorem dX1_makeEachGraph_68 : decode cX1_makeEachGraph 68 = .ok (.invokevirtual 179, 3) := by decide +kernel
theorem dX1_makeEachGraph_71 : decode cX1_makeEachGraph 71 = .ok (.iinc 5 1, 3) := by decide +kernel
theorem dX1_makeEachGraph_74 : decode cX1_makeEachGraph 74 = .ok (.goto (-39), 3) := by decide +kernel
theorem dX1_makeEachGraph_77 : decode cX1_makeEachGraph 77 = .ok (.iinc 3 1, 3) := by decide +kernel
theorem dX1_makeEachGraph_80 : decode cX1_makeEachGraph 80 = .ok (.goto (-78), 3) := by decide +kernel
theorem dX1_makeEachGraph_83 : decode cX1_makeEachGraph 83 = .ok (.return_, 1) := by decide +kernel
theorem dX1_makeJoin_0 : decode cX1_makeJoin 0 = .ok (.iconst 0, 1) := by decide +kernel
theorem dX1_makeJoin_1 : decode cX1_makeJoin 1 = .ok (.istore_n 3, 1) := by decide +kernel
theorem dX1_makeJoin_2 : decode cX1_makeJoin 2 = .ok (.iload_n 3, 1) := by decide +kernel
theorem dX1_makeJoin_3 : decode cX1_makeJoin 3 = .ok (.aload_n 0, 1) := by decide +kernel
theorem dX1_makeJoin_4 : decode cX1_makeJoin 4 = .ok (.getfield 186, 3) := by decide +kernel
theorem dX1_makeJoin_7 : decode cX1_makeJoin 7 = .ok (.if_icmp .ge 65, 3) := by decide +kernel
theorem dX1_makeJoin_10 : decode cX1_makeJoin 10 = .ok (.aload_n 2, 1) := by decide +kernel
theorem dX1_makeJoin_11 : decode cX1_makeJoin 11 = .ok (.getfield 109, 3) := by decide +kernel
theorem dX1_makeJoin_14 : decode cX1_makeJoin 14 = .ok (.ifCond .ne 58, 3) := by decide +kernel
theorem dX1_makeJoin_17 : decode cX1_makeJoin 17 = .ok (.iconst 0, 1) := by decide +kernel
theorem dX1_makeJoin_18 : decode cX1_makeJoin 18 = .ok (.istore 4, 2) := by decide +kernel
theorem dX1_makeJoin_20 : decode cX1_makeJoin 20 = .ok (.iload 4, 2) := by decide +kernel
theorem dX1_makeJoin_22 : decode cX1_makeJoin 22 = .ok (.aload_n 1, 1) := by decide +kernel
theorem dX1_makeJoin_23 : decode cX1_makeJoin 23 = .ok (.getfield 186, 3) := by decide +kernel
theorem dX1_makeJoin_26 : decode cX1_makeJoin 26 = .ok (.if_icmp .ge 40, 3) := by decide +kernel
theorem dX1_makeJoin_29 : decode cX1_makeJoin 29 = .ok (.aload_n 2, 1) := by decide +kernel
theorem dX1_makeJoin_30 : decode cX1_makeJoin 30 = .ok (.getfield 109, 3) := by decide +kernel
theorem dX1_makeJoin_33 : decode cX1_makeJoin 33 = .ok (.ifCond .ne 33, 3) := by decide +kernel
theorem dX1_makeJoin_36 : decode cX1_makeJoin 36 = .ok (.aload_n 0, 1) := by decide +kernel
theorem dX1_makeJoin_37 : decode cX1_makeJoin 37 = .ok (.iload_n 3, 1) := by decide +kernel
theorem dX1_makeJoin_38 : decode cX1_makeJoin 38 = .ok (.aload_n 1, 1) := by decide +kernel
theorem dX1_makeJoin_39 : decode cX1_makeJoin 39 = .ok (.iload 4, 2) := by decide +kernel
theorem dX1_makeJoin_41 : decode cX1_makeJoin 41 = .ok (.invokevirtual 194, 3) := by decide +kernel
theorem dX1_makeJoin_44 : decode cX1_makeJoin 44 = .ok (.ifCond .eq 16, 3) := by decide +kernel
theorem dX1_makeJoin_47 : decode cX1_makeJoin 47 = .ok (.aload_n 2, 1) := by decide +kernel
theorem dX1_makeJoin_48 : decode cX1_makeJoin 48 = .ok (.aload_n 0, 1) := by decide +kernel
theorem dX1_makeJoin_49 : decode cX1_makeJoin 49 = .ok (.iload_n 3, 1) := by decide +kernel
theorem dX1_makeJoin_50 : decode cX1_makeJoin 50 = .ok (.aload_n 1, 1) := by decide +kernel
theorem dX1_makeJoin_51 : decode cX1_makeJoin 51 = .ok (.iload 4, 2) := by decide +kernel
theorem dX1_makeJoin_53 : decode cX1_makeJoin 53 = .ok (.invokevirtual 198, 3) := by decide +kernel
theorem dX1_makeJoin_56 : decode cX1_makeJoin 56 = .ok (.aload_n 2, 1) := by decide +kernel
theorem dX1_makeJoin_57 : decode cX1_makeJoin 57 = .ok (.invokevirtual 179, 3) := by decide +kernel
theorem dX1_makeJoin_60 : decode cX1_makeJoin 60 = .ok (.iinc 4 1, 3) := by decide +kernel
theorem dX1_makeJoin_63 : decode cX1_makeJoin 63 = .ok (.goto (-43), 3) := by decide +kernel
theorem dX1_makeJoin_66 : decode cX1_makeJoin 66 = .ok (.iinc 3 1, 3) := by decide +kernel
theorem dX1_makeJoin_69 : decode cX1_makeJoin 69 = .ok (.goto (-67), 3) := by decide +kernel
theorem dX1_makeJoin_72 : decode cX1_makeJoin 72 = .ok (.return_, 1) := by decide +kernel
theorem dX1_makeMinus_0 : decode cX1_makeMinus 0 = .ok (.iconst 0, 1) := by decide +kernel
theorem dX1_makeMinus_1 : decode cX1_makeMinus 1 = .ok (.istore_n 3, 1) := by decide +kernel
theorem dX1_makeMinus_2 : decode cX1_makeMinus 2 = .ok (.iload_n 3, 1) := by decide +kernel
theorem dX1_makeMinus_3 : decode cX1_makeMinus 3 = .ok (.aload_n 0, 1) := by decide +kernel
theorem dX1_makeMinus_4 : decode cX1_makeMinus 4 = .ok (.getfield 186, 3) := by decide +kernel
theorem dX1_makeMinus_7 : decode cX1_makeMinus 7 = .ok (.if_icmp .ge 24, 3) := by decide +kernel
theorem dX1_makeMinus_10 : decode cX1_makeMinus 10 = .ok (.aload_n 0, 1) := by decide +kernel
theorem dX1_makeMinus_11 : decode cX1_makeMinus 11 = .ok (.iload_n 3, 1) := by decide +kernel
theorem dX1_makeMinus_12 : decode cX1_makeMinus 12 = .ok (.aload_n 1, 1) := by decide +kernel
theorem dX1_makeMinus_13 : decode cX1_makeMinus 13 = .ok (.invokestatic 202, 3) := by decide +kernel
theorem dX1_makeMinus_16 : decode cX1_makeMinus 16 = .ok (.ifCond .ne 9, 3) := by decide +kernel
theorem dX1_makeMinus_19 : decode cX1_makeMinus 19 = .ok (.aload_n 2, 1) := by decide +kernel
theorem dX1_makeMinus_20 : decode cX1_makeMinus 20 = .ok (.aload_n 0, 1) := by decide +kernel
theorem dX1_makeMinus_21 : decode cX1_makeMinus 21 = .ok (.iload_n 3, 1) := by decide +kernel
theorem dX1_makeMinus_22 : decode cX1_makeMinus 22 = .ok (.invokevirtual 206, 3) := by decide +kernel
theorem dX1_makeMinus_25 : decode cX1_makeMinus 25 = .ok (.iinc 3 1, 3) := by decide +kernel
theorem dX1_makeMinus_28 : decode cX1_makeMinus 28 = .ok (.goto (-26), 3) := by decide +kernel
theorem dX1_makeMinus_31 : decode cX1_makeMinus 31 = .ok (.return_, 1) := by decide +kernel
theorem dX1_isTakenAway_0 : decode cX1_isTakenAway 0 = .ok (.iconst 0, 1) := by decide +kernel
theorem dX1_isTakenAway_1 : decode cX1_isTakenAway 1 = .ok (.istore_n 3, 1) := by decide +kernel
theorem dX1_isTakenAway_2 : decode cX1_isTakenAway 2 = .ok (.iload_n 3, 1) := by decide +kernel
theorem dX1_isTakenAway_3 : decode cX1_isTakenAway 3 = .ok (.aload_n 2, 1) := by decide +kernel
theorem dX1_isTakenAway_4 : decode cX1_isTakenAway 4 = .ok (.getfield 186, 3) := by decide +kernel
theorem dX1_isTakenAway_7 : decode cX1_isTakenAway 7 = .ok (.if_icmp .ge 31, 3) := by decide +kernel
theorem dX1_isTakenAway_10 : decode cX1_isTakenAway 10 = .ok (.aload_n 0, 1) := by decide +kernel
theorem dX1_isTakenAway_11 : decode cX1_isTakenAway 11 = .ok (.iload_n 1, 1) := by decide +kernel
theorem dX1_isTakenAway_12 : decode cX1_isTakenAway 12 = .ok (.aload_n 2, 1) := by decide +kernel
theorem dX1_isTakenAway_13 : decode cX1_isTakenAway 13 = .ok (.iload_n 3, 1) := by decide +kernel
theorem dX1_isTakenAway_14 : decode cX1_isTakenAway 14 = .ok (.invokevirtual 194, 3) := by decide +kernel
theorem dX1_isTakenAway_17 : decode cX1_isTakenAway 17 = .ok (.ifCond .eq 15, 3) := by decide +kernel
theorem dX1_isTakenAway_20 : decode cX1_isTakenAway 20 = .ok (.aload_n 0, 1) := by decide +kernel
theorem dX1_isTakenAway_21 : decode cX1_isTakenAway 21 = .ok (.iload_n 1, 1) := by decide +kernel
theorem dX1_isTakenAway_22 : decode cX1_isTakenAway 22 = .ok (.aload_n 2, 1) := by decide +kernel
theorem dX1_isTakenAway_23 : decode cX1_isTakenAway 23 = .ok (.iload_n 3, 1) := by decide +kernel
theorem dX1_isTakenAway_24 : decode cX1_isTakenAway 24 = .ok (.invokevirtual 210, 3) := by decide +kernel
theorem dX1_isTakenAway_27 : decode cX1_isTakenAway 27 = .ok (.ifCond .eq 5, 3) := by decide +kernel
theorem dX1_isTakenAway_30 : decode cX1_isTakenAway 30 = .ok (.iconst 1, 1) := by decide +kernel
theorem dX1_isTakenAway_31 : decode cX1_isTakenAway 31 = .ok (.ireturn, 1) := by decide +kernel
theorem dX1_isTakenAway_32 : decode cX1_isTakenAway 32 = .ok (.iinc 3 1, 3) := by decide +kernel
theorem dX1_isTakenAway_35 : decode cX1_isTakenAway 35 = .ok (.goto (-33), 3) := by decide +kernel
theorem dX1_isTakenAway_38 : decode cX1_isTakenAway 38 = .ok (.iconst 0, 1) := by decide +kernel
theorem dX1_isTakenAway_39 : decode cX1_isTakenAway 39 = .ok (.ireturn, 1) := by decide +kernel
theorem dX1_makeLeft_0 : decode cX1_makeLeft 0 = .ok (.iconst 0, 1) := by decide +kernel
theorem dX1_makeLeft_1 : decode cX1_makeLeft 1 = .ok (.istore 5, 2) := by decide +kernel
theorem dX1_makeLeft_3 : decode cX1_makeLeft 3 = .ok (.iload 5, 2) := by decide +kernel
theorem dX1_makeLeft_5 : decode cX1_makeLeft 5 = .ok (.aload_n 2, 1) := by decide +kernel
theorem dX1_makeLeft_6 : decode cX1_makeLeft 6 = .ok (.getfield 186, 3) := by decide +kernel
theorem dX1_makeLeft_9 : decode cX1_makeLeft 9 = .ok (.if_icmp .ge 125, 3) := by decide +kernel
theorem dX1_makeLeft_12 : decode cX1_makeLeft 12 = .ok (.aload 4, 2) := by decide +kernel
theorem dX1_makeLeft_14 : decode cX1_makeLeft 14 = .ok (.getfield 109, 3) := by decide +kernel
theorem dX1_makeLeft_17 : decode cX1_makeLeft 17 = .ok (.ifCond .ne 117, 3) := by decide +kernel
theorem dX1_makeLeft_20 : decode cX1_makeLeft 20 = .ok (.iconst 1, 1) := by decide +kernel
theorem dX1_makeLeft_21 : decode cX1_makeLeft 21 = .ok (.istore 6, 2) := by decide +kernel
theorem dX1_makeLeft_23 : decode cX1_makeLeft 23 = .ok (.iconst 0, 1) := by decide +kernel
theorem dX1_makeLeft_24 : decode cX1_makeLeft 24 = .ok (.istore 7, 2) := by decide +kernel
theorem dX1_makeLeft_26 : decode cX1_makeLeft 26 = .ok (.iload 7, 2) := by decide +kernel
theorem dX1_makeLeft_28 : decode cX1_makeLeft 28 = .ok (.aload_n 3, 1) := by decide +kernel
theorem dX1_makeLeft_29 : decode cX1_makeLeft 29 = .ok (.getfield 186, 3) := by decide +kernel
theorem dX1_makeLeft_32 : decode cX1_makeLeft 32 = .ok (.if_icmp .ge 83, 3) := by decide +kernel
theorem dX1_makeLeft_35 : decode cX1_makeLeft 35 = .ok (.aload 4, 2) := by decide +kernel
theorem dX1_makeLeft_37 : decode cX1_makeLeft 37 = .ok (.getfield 109, 3) := by decide +kernel
theorem dX1_makeLeft_40 : decode cX1_makeLeft 40 = .ok (.ifCond .ne 75, 3) := by decide +kernel
theorem dX1_makeLeft_43 : decode cX1_makeLeft 43 = .ok (.aload_n 2, 1) := by decide +kernel
theorem dX1_makeLeft_44 : decode cX1_makeLeft 44 = .ok (.iload 5, 2) := by decide +kernel
theorem dX1_makeLeft_46 : decode cX1_makeLeft 46 = .ok (.aload_n 3, 1) := by decide +kernel
theorem dX1_makeLeft_47 : decode cX1_makeLeft 47 = .ok (.iload 7, 2) := by decide +kernel
theorem dX1_makeLeft_49 : decode cX1_makeLeft 49 = .ok (.invokevirtual 194, 3) := by decide +kernel
theorem dX1_makeLeft_52 : decode cX1_makeLeft 52 = .ok (.ifCond .ne 6, 3) := by decide +kernel
theorem dX1_makeLeft_55 : decode cX1_makeLeft 55 = .ok (.goto 54, 3) := by decide +kernel
theorem dX1_makeLeft_58 : decode cX1_makeLeft 58 = .ok (.aload 4, 2) := by decide +kernel
theorem dX1_makeLeft_60 : decode cX1_makeLeft 60 = .ok (.aload_n 2, 1) := by decide +kernel
theorem dX1_makeLeft_61 : decode cX1_makeLeft 61 = .ok (.iload 5, 2) := by decide +kernel
theorem dX1_makeLeft_63 : decode cX1_makeLeft 63 = .ok (.aload_n 3, 1) := by decide +kernel
theorem dX1_makeLeft_64 : decode cX1_makeLeft 64 = .ok (.iload 7, 2) := by decide +kernel
theorem dX1_makeLeft_66 : decode cX1_makeLeft 66 = .ok (.invokevirtual 198, 3) := by decide +kernel
theorem dX1_makeLeft_69 : decode cX1_makeLeft 69 = .ok (.aload_n 1, 1) := by decide +kernel
theorem dX1_makeLeft_70 : decode cX1_makeLeft 70 = .ok (.getfield 213, 3) := by decide +kernel
theorem dX1_makeLeft_73 : decode cX1_makeLeft 73 = .ok (.iconst (-1), 1) := by decide +kernel
theorem dX1_makeLeft_74 : decode cX1_makeLeft 74 = .ok (.if_icmp .eq 27, 3) := by decide +kernel
theorem dX1_makeLeft_77 : decode cX1_makeLeft 77 = .ok (.aload_n 0, 1) := by decide +kernel
theorem dX1_makeLeft_78 : decode cX1_makeLeft 78 = .ok (.getfield 21, 3) := by decide +kernel
theorem dX1_makeLeft_81 : decode cX1_makeLeft 81 = .ok (.aload_n 1, 1) := by decide +kernel
theorem dX1_makeLeft_82 : decode cX1_makeLeft 82 = .ok (.getfield 213, 3) := by decide +kernel
theorem dX1_makeLeft_85 : decode cX1_makeLeft 85 = .ok (.aload 4, 2) := by decide +kernel
theorem dX1_makeLeft_87 : decode cX1_makeLeft 87 = .ok (.aload 4, 2) := by decide +kernel
theorem dX1_makeLeft_89 : decode cX1_makeLeft 89 = .ok (.getfield 186, 3) := by decide +kernel
theorem dX1_makeLeft_92 : decode cX1_makeLeft 92 = .ok (.invokevirtual 216, 3) := by decide +kernel
theorem dX1_makeLeft_95 : decode cX1_makeLeft 95 = .ok (.invokestatic 220, 3) := by decide +kernel
theorem dX1_makeLeft_98 : decode cX1_makeLeft 98 = .ok (.ifCond .eq 11, 3) := by decide +kernel
theorem dX1_makeLeft_101 : decode cX1_makeLeft 101 = .ok (.aload 4, 2) := by decide +kernel
theorem dX1_makeLeft_103 : decode cX1_makeLeft 103 = .ok (.invokevirtual 179, 3) := by decide +kernel
theorem dX1_makeLeft_106 : decode cX1_makeLeft 106 = .ok (.iconst 0, 1) := by decide +kernel
theorem dX1_makeLeft_107 : decode cX1_makeLeft 107 = .ok (.istore 6, 2) := by decide +kernel
theorem dX1_makeLeft_109 : decode cX1_makeLeft 109 = .ok (.iinc 7 1, 3) := by decide +kernel
theorem dX1_makeLeft_112 : decode cX1_makeLeft 112 = .ok (.goto (-86), 3) := by decide +kernel
theorem dX1_makeLeft_115 : decode cX1_makeLeft 115 = .ok (.iload 6, 2) := by decide +kernel
theorem dX1_makeLeft_117 : decode cX1_makeLeft 117 = .ok (.ifCond .eq 11, 3) := by decide +kernel
theorem dX1_makeLeft_120 : decode cX1_makeLeft 120 = .ok (.aload 4, 2) := by decide +kernel
theorem dX1_makeLeft_122 : decode cX1_makeLeft 122 = .ok (.aload_n 2, 1) := by decide +kernel
theorem dX1_makeLeft_123 : decode cX1_makeLeft 123 = .ok (.iload 5, 2) := by decide +kernel
theorem dX1_makeLeft_125 : decode cX1_makeLeft 125 = .ok (.invokevirtual 206, 3) := by decide +kernel
theorem dX1_makeLeft_128 : decode cX1_makeLeft 128 = .ok (.iinc 5 1, 3) := by decide +kernel
theorem dX1_makeLeft_131 : decode cX1_makeLeft 131 = .ok (.goto (-128), 3) := by decide +kernel
theorem dX1_makeLeft_134 : decode cX1_makeLeft 134 = .ok (.return_, 1) := by decide +kernel
theorem dX1_makeFilter_0 : decode cX1_makeFilter 0 = .ok (.iconst 0, 1) := by decide +kernel
theorem dX1_makeFilter_1 : decode cX1_makeFilter 1 = .ok (.istore 4, 2) := by decide +kernel
theorem dX1_makeFilter_3 : decode cX1_makeFilter 3 = .ok (.iload 4, 2) := by decide +kernel
theorem dX1_makeFilter_5 : decode cX1_makeFilter 5 = .ok (.aload_n 2, 1) := by decide +kernel
theorem dX1_makeFilter_6 : decode cX1_makeFilter 6 = .ok (.getfield 186, 3) := by decide +kernel
theorem dX1_makeFilter_9 : decode cX1_makeFilter 9 = .ok (.if_icmp .ge 36, 3) := by decide +kernel
theorem dX1_makeFilter_12 : decode cX1_makeFilter 12 = .ok (.aload_n 0, 1) := by decide +kernel
theorem dX1_makeFilter_13 : decode cX1_makeFilter 13 = .ok (.getfield 21, 3) := by decide +kernel
theorem dX1_makeFilter_16 : decode cX1_makeFilter 16 = .ok (.aload_n 1, 1) := by decide +kernel
theorem dX1_makeFilter_17 : decode cX1_makeFilter 17 = .ok (.getfield 213, 3) := by decide +kernel
theorem dX1_makeFilter_20 : decode cX1_makeFilter 20 = .ok (.aload_n 2, 1) := by decide +kernel
theorem dX1_makeFilter_21 : decode cX1_makeFilter 21 = .ok (.iload 4, 2) := by decide +kernel
theorem dX1_makeFilter_23 : decode cX1_makeFilter 23 = .ok (.invokevirtual 216, 3) := by decide +kernel
theorem dX1_makeFilter_26 : decode cX1_makeFilter 26 = .ok (.invokestatic 220, 3) := by decide +kernel
theorem dX1_makeFilter_29 : decode cX1_makeFilter 29 = .ok (.ifCond .eq 10, 3) := by decide +kernel
theorem dX1_makeFilter_32 : decode cX1_makeFilter 32 = .ok (.aload_n 3, 1) := by decide +kernel
theorem dX1_makeFilter_33 : decode cX1_makeFilter 33 = .ok (.aload_n 2, 1) := by decide +kernel
theorem dX1_makeFilter_34 : decode cX1_makeFilter 34 = .ok (.iload 4, 2) := by decide +kernel
theorem dX1_makeFilter_36 : decode cX1_makeFilter 36 = .ok (.invokevirtual 206, 3) := by decide +kernel
theorem dX1_makeFilter_39 : decode cX1_makeFilter 39 = .ok (.iinc 4 1, 3) := by decide +kernel
theorem dX1_makeFilter_42 : decode cX1_makeFilter 42 = .ok (.goto (-39), 3) := by decide +kernel
theorem dX1_makeFilter_45 : decode cX1_makeFilter 45 = .ok (.return_, 1) := by decide +kernel
theorem dX1_makeExtension_0 : decode cX1_makeExtension 0 = .ok (.iconst 0, 1) := by decide +kernel
theorem dX1_makeExtension_1 : decode cX1_makeExtension 1 = .ok (.istore 4, 2) := by decide +kernel
theorem dX1_makeExtension_3 : decode cX1_makeExtension 3 = .ok (.iload 4, 2) := by decide +kernel
theorem dX1_makeExtension_5 : decode cX1_makeExtension 5 = .ok (.aload_n 2, 1) := by decide +kernel
theorem dX1_makeExtension_6 : decode cX1_makeExtension 6 = .ok (.getfield 186, 3) := by decide +kernel
theorem dX1_makeExtension_9 : decode cX1_makeExtension 9 = .ok (.if_icmp .ge 45, 3) := by decide +kernel
theorem dX1_makeExtension_12 : decode cX1_makeExtension 12 = .ok (.aload_n 3, 1) := by decide +kernel
theorem dX1_makeExtension_13 : decode cX1_makeExtension 13 = .ok (.aload_n 2, 1) := by decide +kernel
theorem dX1_makeExtension_14 : decode cX1_makeExtension 14 = .ok (.iload 4, 2) := by decide +kernel
theorem dX1_makeExtension_16 : decode cX1_makeExtension 16 = .ok (.bipush 63, 2) := by decide +kernel
theorem dX1_makeExtension_18 : decode cX1_makeExtension 18 = .ok (.invokevirtual 187, 3) := by decide +kernel
theorem dX1_makeExtension_21 : decode cX1_makeExtension 21 = .ok (.aload_n 3, 1) := by decide +kernel
theorem dX1_makeExtension_22 : decode cX1_makeExtension 22 = .ok (.aload_n 1, 1) := by decide +kernel
theorem dX1_makeExtension_23 : decode cX1_makeExtension 23 = .ok (.getfield 191, 3) := by decide +kernel
theorem dX1_makeExtension_26 : decode cX1_makeExtension 26 = .ok (.aload_n 0, 1) := by decide +kernel
theorem dX1_makeExtension_27 : decode cX1_makeExtension 27 = .ok (.getfield 21, 3) := by decide +kernel
theorem dX1_makeExtension_30 : decode cX1_makeExtension 30 = .ok (.aload_n 1, 1) := by decide +kernel
theorem dX1_makeExtension_31 : decode cX1_makeExtension 31 = .ok (.getfield 213, 3) := by decide +kernel
theorem dX1_makeExtension_34 : decode cX1_makeExtension 34 = .ok (.aload_n 2, 1) := by decide +kernel
theorem dX1_makeExtension_35 : decode cX1_makeExtension 35 = .ok (.iload 4, 2) := by decide +kernel
theorem dX1_makeExtension_37 : decode cX1_makeExtension 37 = .ok (.invokevirtual 216, 3) := by decide +kernel
theorem dX1_makeExtension_40 : decode cX1_makeExtension 40 = .ok (.invokevirtual 182, 3) := by decide +kernel
theorem dX1_makeExtension_43 : decode cX1_makeExtension 43 = .ok (.pop, 1) := by decide +kernel
theorem dX1_makeExtension_44 : decode cX1_makeExtension 44 = .ok (.aload_n 3, 1) := by decide +kernel
theorem dX1_makeExtension_45 : decode cX1_makeExtension 45 = .ok (.invokevirtual 179, 3) := by decide +kernel
theorem dX1_makeExtension_48 : decode cX1_makeExtension 48 = .ok (.iinc 4 1, 3) := by decide +kernel
theorem dX1_makeExtension_51 : decode cX1_makeExtension 51 = .ok (.goto (-48), 3) := by decide +kernel
theorem dX1_makeExtension_54 : decode cX1_makeExtension 54 = .ok (.return_, 1) := by decide +kernel
theorem dX1_makeProjection_0 : decode cX1_makeProjection 0 = .ok (.iconst 0, 1) := by decide +kernel
theorem dX1_makeProjection_1 : decode cX1_makeProjection 1 = .ok (.istore_n 3, 1) := by decide +kernel
theorem dX1_makeProjection_2 : decode cX1_makeProjection 2 = .ok (.iload_n 3, 1) := by decide +kernel
theorem dX1_makeProjection_3 : decode cX1_makeProjection 3 = .ok (.aload_n 1, 1) := by decide +kernel
theorem dX1_makeProjection_4 : decode cX1_makeProjection 4 = .ok (.getfield 186, 3) := by decide +kernel
theorem dX1_makeProjection_7 : decode cX1_makeProjection 7 = .ok (.if_icmp .ge 23, 3) := by decide +kernel
theorem dX1_makeProjection_10 : decode cX1_makeProjection 10 = .ok (.aload_n 2, 1) := by decide +kernel
theorem dX1_makeProjection_11 : decode cX1_makeProjection 11 = .ok (.aload_n 1, 1) := by decide +kernel
theorem dX1_makeProjection_12 : decode cX1_makeProjection 12 = .ok (.iload_n 3, 1) := by decide +kernel
theorem dX1_makeProjection_13 : decode cX1_makeProjection 13 = .ok (.aload_n 0, 1) := by decide +kernel
theorem dX1_makeProjection_14 : decode cX1_makeProjection 14 = .ok (.getfield 135, 3) := by decide +kernel
theorem dX1_makeProjection_17 : decode cX1_makeProjection 17 = .ok (.invokevirtual 187, 3) := by decide +kernel
theorem dX1_makeProjection_20 : decode cX1_makeProjection 20 = .ok (.aload_n 2, 1) := by decide +kernel
theorem dX1_makeProjection_21 : decode cX1_makeProjection 21 = .ok (.invokevirtual 179, 3) := by decide +kernel
theorem dX1_makeProjection_24 : decode cX1_makeProjection 24 = .ok (.iinc 3 1, 3) := by decide +kernel
theorem dX1_makeProjection_27 : decode cX1_makeProjection 27 = .ok (.goto (-25), 3) := by decide +kernel
theorem dX1_makeProjection_30 : decode cX1_makeProjection 30 = .ok (.return_, 1) := by decide +kernel
theorem dX1_makeDistinct_0 : decode cX1_makeDistinct 0 = .ok (.iconst 0, 1) := by decide +kernel
theorem dX1_makeDistinct_1 : decode cX1_makeDistinct 1 = .ok (.istore_n 3, 1) := by decide +kernel
theorem dX1_makeDistinct_2 : decode cX1_makeDistinct 2 = .ok (.iload_n 3, 1) := by decide +kernel
theorem dX1_makeDistinct_3 : decode cX1_makeDistinct 3 = .ok (.aload_n 0, 1) := by decide +kernel
theorem dX1_makeDistinct_4 : decode cX1_makeDistinct 4 = .ok (.getfield 186, 3) := by decide +kernel
theorem dX1_makeDistinct_7 : decode cX1_makeDistinct 7 = .ok (.if_icmp .ge 30, 3) := by decide +kernel
theorem dX1_makeDistinct_10 : decode cX1_makeDistinct 10 = .ok (.aload_n 2, 1) := by decide +kernel
theorem dX1_makeDistinct_11 : decode cX1_makeDistinct 11 = .ok (.aload_n 0, 1) := by decide +kernel
theorem dX1_makeDistinct_12 : decode cX1_makeDistinct 12 = .ok (.iload_n 3, 1) := by decide +kernel
theorem dX1_makeDistinct_13 : decode cX1_makeDistinct 13 = .ok (.iload_n 1, 1) := by decide +kernel
theorem dX1_makeDistinct_14 : decode cX1_makeDistinct 14 = .ok (.invokevirtual 224, 3) := by decide +kernel
theorem dX1_makeDistinct_17 : decode cX1_makeDistinct 17 = .ok (.ifCond .ne 14, 3) := by decide +kernel
theorem dX1_makeDistinct_20 : decode cX1_makeDistinct 20 = .ok (.aload_n 2, 1) := by decide +kernel
theorem dX1_makeDistinct_21 : decode cX1_makeDistinct 21 = .ok (.aload_n 0, 1) := by decide +kernel
theorem dX1_makeDistinct_22 : decode cX1_makeDistinct 22 = .ok (.iload_n 3, 1) := by decide +kernel
theorem dX1_makeDistinct_23 : decode cX1_makeDistinct 23 = .ok (.iload_n 1, 1) := by decide +kernel
theorem dX1_makeDistinct_24 : decode cX1_makeDistinct 24 = .ok (.invokevirtual 187, 3) := by decide +kernel
theorem dX1_makeDistinct_27 : decode cX1_makeDistinct 27 = .ok (.aload_n 2, 1) := by decide +kernel
theorem dX1_makeDistinct_28 : decode cX1_makeDistinct 28 = .ok (.invokevirtual 179, 3) := by decide +kernel
theorem dX1_makeDistinct_31 : decode cX1_makeDistinct 31 = .ok (.iinc 3 1, 3) := by decide +kernel
theorem dX1_makeDistinct_34 : decode cX1_makeDistinct 34 = .ok (.goto (-32), 3) := by decide +kernel
theorem dX1_makeDistinct_37 : decode cX1_makeDistinct 37 = .ok (.return_, 1) := by decide +kernel
theorem dX1_makeSlice_0 : decode cX1_makeSlice 0 = .ok (.aload_n 0, 1) := by decide +kernel
theorem dX1_makeSlice_1 : decode cX1_makeSlice 1 = .ok (.getfield 228, 3) := by decide +kernel
theorem dX1_makeSlice_4 : decode cX1_makeSlice 4 = .ok (.istore_n 3, 1) := by decide +kernel
theorem dX1_makeSlice_5 : decode cX1_makeSlice 5 = .ok (.iload_n 3, 1) := by decide +kernel
theorem dX1_makeSlice_6 : decode cX1_makeSlice 6 = .ok (.aload_n 1, 1) := by decide +kernel
theorem dX1_makeSlice_7 : decode cX1_makeSlice 7 = .ok (.getfield 186, 3) := by decide +kernel
theorem dX1_makeSlice_10 : decode cX1_makeSlice 10 = .ok (.if_icmp .ge 28, 3) := by decide +kernel
