theorem dX5_init_0 : decode cX5_init 0 = .ok (.aload_n 0, 1) := by decide +kernel
theorem dX5_init_1 : decode cX5_init 1 = .ok (.invokespecial 3, 3) := by decide +kernel
theorem dX5_init_4 : decode cX5_init 4 = .ok (.aload_n 0, 1) := by decide +kernel
theorem dX5_init_5 : decode cX5_init 5 = .ok (.bipush 60, 2) := by decide +kernel
theorem dX5_init_7 : decode cX5_init 7 = .ok (.newarray .int, 2) := by decide +kernel
theorem dX5_init_9 : decode cX5_init 9 = .ok (.putfield 9, 3) := by decide +kernel
theorem dX5_init_12 : decode cX5_init 12 = .ok (.aload_n 0, 1) := by decide +kernel
theorem dX5_init_13 : decode cX5_init 13 = .ok (.bipush 60, 2) := by decide +kernel
theorem dX5_init_15 : decode cX5_init 15 = .ok (.newarray .int, 2) := by decide +kernel
theorem dX5_init_17 : decode cX5_init 17 = .ok (.putfield 15, 3) := by decide +kernel
theorem dX5_init_20 : decode cX5_init 20 = .ok (.aload_n 0, 1) := by decide +kernel
theorem dX5_init_21 : decode cX5_init 21 = .ok (.bipush 60, 2) := by decide +kernel
theorem dX5_init_23 : decode cX5_init 23 = .ok (.newarray .int, 2) := by decide +kernel
theorem dX5_init_25 : decode cX5_init 25 = .ok (.putfield 18, 3) := by decide +kernel
theorem dX5_init_28 : decode cX5_init 28 = .ok (.aload_n 0, 1) := by decide +kernel
theorem dX5_init_29 : decode cX5_init 29 = .ok (.bipush 60, 2) := by decide +kernel
theorem dX5_init_31 : decode cX5_init 31 = .ok (.newarray .int, 2) := by decide +kernel
theorem dX5_init_33 : decode cX5_init 33 = .ok (.putfield 21, 3) := by decide +kernel
theorem dX5_init_36 : decode cX5_init 36 = .ok (.return_, 1) := by decide +kernel
theorem dX5_add_0 : decode cX5_add 0 = .ok (.aload_n 0, 1) := by decide +kernel
theorem dX5_add_1 : decode cX5_add 1 = .ok (.getfield 24, 3) := by decide +kernel
theorem dX5_add_4 : decode cX5_add 4 = .ok (.bipush 60, 2) := by decide +kernel
theorem dX5_add_6 : decode cX5_add 6 = .ok (.if_icmp .eq 15, 3) := by decide +kernel
theorem dX5_add_9 : decode cX5_add 9 = .ok (.aload_n 0, 1) := by decide +kernel
theorem dX5_add_10 : decode cX5_add 10 = .ok (.iload_n 1, 1) := by decide +kernel
theorem dX5_add_11 : decode cX5_add 11 = .ok (.iload_n 2, 1) := by decide +kernel
theorem dX5_add_12 : decode cX5_add 12 = .ok (.iload_n 3, 1) := by decide +kernel
theorem dX5_add_13 : decode cX5_add 13 = .ok (.iload 4, 2) := by decide +kernel
theorem dX5_add_15 : decode cX5_add 15 = .ok (.invokevirtual 28, 3) := by decide +kernel
theorem dX5_add_18 : decode cX5_add 18 = .ok (.ifCond .eq 5, 3) := by decide +kernel
theorem dX5_add_21 : decode cX5_add 21 = .ok (.iconst (-1), 1) := by decide +kernel
theorem dX5_add_22 : decode cX5_add 22 = .ok (.ireturn, 1) := by decide +kernel
theorem dX5_add_23 : decode cX5_add 23 = .ok (.aload_n 0, 1) := by decide +kernel
theorem dX5_add_24 : decode cX5_add 24 = .ok (.getfield 9, 3) := by decide +kernel
theorem dX5_add_27 : decode cX5_add 27 = .ok (.aload_n 0, 1) := by decide +kernel
theorem dX5_add_28 : decode cX5_add 28 = .ok (.getfield 24, 3) := by decide +kernel
theorem dX5_add_31 : decode cX5_add 31 = .ok (.iload_n 1, 1) := by decide +kernel
theorem dX5_add_32 : decode cX5_add 32 = .ok (.iastore, 1) := by decide +kernel
theorem dX5_add_33 : decode cX5_add 33 = .ok (.aload_n 0, 1) := by decide +kernel
theorem dX5_add_34 : decode cX5_add 34 = .ok (.getfield 15, 3) := by decide +kernel
theorem dX5_add_37 : decode cX5_add 37 = .ok (.aload_n 0, 1) := by decide +kernel
theorem dX5_add_38 : decode cX5_add 38 = .ok (.getfield 24, 3) := by decide +kernel
theorem dX5_add_41 : decode cX5_add 41 = .ok (.iload_n 2, 1) := by decide +kernel
theorem dX5_add_42 : decode cX5_add 42 = .ok (.iastore, 1) := by decide +kernel
theorem dX5_add_43 : decode cX5_add 43 = .ok (.aload_n 0, 1) := by decide +kernel
theorem dX5_add_44 : decode cX5_add 44 = .ok (.getfield 18, 3) := by decide +kernel
theorem dX5_add_47 : decode cX5_add 47 = .ok (.aload_n 0, 1) := by decide +kernel
theorem dX5_add_48 : decode cX5_add 48 = .ok (.getfield 24, 3) := by decide +kernel
theorem dX5_add_51 : decode cX5_add 51 = .ok (.iload_n 3, 1) := by decide +kernel
theorem dX5_add_52 : decode cX5_add 52 = .ok (.iastore, 1) := by decide +kernel
theorem dX5_add_53 : decode cX5_add 53 = .ok (.aload_n 0, 1) := by decide +kernel
theorem dX5_add_54 : decode cX5_add 54 = .ok (.getfield 21, 3) := by decide +kernel
theorem dX5_add_57 : decode cX5_add 57 = .ok (.aload_n 0, 1) := by decide +kernel
theorem dX5_add_58 : decode cX5_add 58 = .ok (.getfield 24, 3) := by decide +kernel
theorem dX5_add_61 : decode cX5_add 61 = .ok (.iload 4, 2) := by decide +kernel
theorem dX5_add_63 : decode cX5_add 63 = .ok (.iastore, 1) := by decide +kernel
theorem dX5_add_64 : decode cX5_add 64 = .ok (.aload_n 0, 1) := by decide +kernel
theorem dX5_add_65 : decode cX5_add 65 = .ok (.dup, 1) := by decide +kernel
theorem dX5_add_66 : decode cX5_add 66 = .ok (.getfield 24, 3) := by decide +kernel
theorem dX5_add_69 : decode cX5_add 69 = .ok (.iconst 1, 1) := by decide +kernel
theorem dX5_add_70 : decode cX5_add 70 = .ok (.iadd, 1) := by decide +kernel
theorem dX5_add_71 : decode cX5_add 71 = .ok (.putfield 24, 3) := by decide +kernel
theorem dX5_add_74 : decode cX5_add 74 = .ok (.aload_n 0, 1) := by decide +kernel
theorem dX5_add_75 : decode cX5_add 75 = .ok (.getfield 24, 3) := by decide +kernel
theorem dX5_add_78 : decode cX5_add 78 = .ok (.iconst 1, 1) := by decide +kernel
theorem dX5_add_79 : decode cX5_add 79 = .ok (.isub, 1) := by decide +kernel
theorem dX5_add_80 : decode cX5_add 80 = .ok (.ireturn, 1) := by decide +kernel
theorem dX5_contains_0 : decode cX5_contains 0 = .ok (.iconst 0, 1) := by decide +kernel
theorem dX5_contains_1 : decode cX5_contains 1 = .ok (.istore 5, 2) := by decide +kernel
theorem dX5_contains_3 : decode cX5_contains 3 = .ok (.iload 5, 2) := by decide +kernel
theorem dX5_contains_5 : decode cX5_contains 5 = .ok (.aload_n 0, 1) := by decide +kernel
theorem dX5_contains_6 : decode cX5_contains 6 = .ok (.getfield 24, 3) := by decide +kernel
theorem dX5_contains_9 : decode cX5_contains 9 = .ok (.if_icmp .ge 56, 3) := by decide +kernel
theorem dX5_contains_12 : decode cX5_contains 12 = .ok (.aload_n 0, 1) := by decide +kernel
theorem dX5_contains_13 : decode cX5_contains 13 = .ok (.getfield 9, 3) := by decide +kernel
theorem dX5_contains_16 : decode cX5_contains 16 = .ok (.iload 5, 2) := by decide +kernel
theorem dX5_contains_18 : decode cX5_contains 18 = .ok (.iaload, 1) := by decide +kernel
theorem dX5_contains_19 : decode cX5_contains 19 = .ok (.iload_n 1, 1) := by decide +kernel
theorem dX5_contains_20 : decode cX5_contains 20 = .ok (.if_icmp .ne 39, 3) := by decide +kernel
theorem dX5_contains_23 : decode cX5_contains 23 = .ok (.aload_n 0, 1) := by decide +kernel
theorem dX5_contains_24 : decode cX5_contains 24 = .ok (.getfield 15, 3) := by decide +kernel
theorem dX5_contains_27 : decode cX5_contains 27 = .ok (.iload 5, 2) := by decide +kernel
theorem dX5_contains_29 : decode cX5_contains 29 = .ok (.iaload, 1) := by decide +kernel
theorem dX5_contains_30 : decode cX5_contains 30 = .ok (.iload_n 2, 1) := by decide +kernel
theorem dX5_contains_31 : decode cX5_contains 31 = .ok (.if_icmp .ne 28, 3) := by decide +kernel
theorem dX5_contains_34 : decode cX5_contains 34 = .ok (.aload_n 0, 1) := by decide +kernel
theorem dX5_contains_35 : decode cX5_contains 35 = .ok (.getfield 18, 3) := by decide +kernel
theorem dX5_contains_38 : decode cX5_contains 38 = .ok (.iload 5, 2) := by decide +kernel
theorem dX5_contains_40 : decode cX5_contains 40 = .ok (.iaload, 1) := by decide +kernel
theorem dX5_contains_41 : decode cX5_contains 41 = .ok (.iload_n 3, 1) := by decide +kernel
theorem dX5_contains_42 : decode cX5_contains 42 = .ok (.if_icmp .ne 17, 3) := by decide +kernel
theorem dX5_contains_45 : decode cX5_contains 45 = .ok (.aload_n 0, 1) := by decide +kernel
theorem dX5_contains_46 : decode cX5_contains 46 = .ok (.getfield 21, 3) := by decide +kernel
theorem dX5_contains_49 : decode cX5_contains 49 = .ok (.iload 5, 2) := by decide +kernel
theorem dX5_contains_51 : decode cX5_contains 51 = .ok (.iaload, 1) := by decide +kernel
theorem dX5_contains_52 : decode cX5_contains 52 = .ok (.iload 4, 2) := by decide +kernel
theorem dX5_contains_54 : decode cX5_contains 54 = .ok (.if_icmp .ne 5, 3) := by decide +kernel
theorem dX5_contains_57 : decode cX5_contains 57 = .ok (.iconst 1, 1) := by decide +kernel
theorem dX5_contains_58 : decode cX5_contains 58 = .ok (.ireturn, 1) := by decide +kernel
theorem dX5_contains_59 : decode cX5_contains 59 = .ok (.iinc 5 1, 3) := by decide +kernel
theorem dX5_contains_62 : decode cX5_contains 62 = .ok (.goto (-59), 3) := by decide +kernel
theorem dX5_contains_65 : decode cX5_contains 65 = .ok (.iconst 0, 1) := by decide +kernel
theorem dX5_contains_66 : decode cX5_contains 66 = .ok (.ireturn, 1) := by decide +kernel
