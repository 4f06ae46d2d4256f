theorem dX6_init_0 : decode cX6_init 0 = .ok (.aload_n 0, 1) := by decide +kernel
theorem dX6_init_1 : decode cX6_init 1 = .ok (.invokespecial 3, 3) := by decide +kernel
theorem dX6_init_4 : decode cX6_init 4 = .ok (.aload_n 0, 1) := by decide +kernel
theorem dX6_init_5 : decode cX6_init 5 = .ok (.new 9, 3) := by decide +kernel
theorem dX6_init_8 : decode cX6_init 8 = .ok (.dup, 1) := by decide +kernel
theorem dX6_init_9 : decode cX6_init 9 = .ok (.invokespecial 11, 3) := by decide +kernel
theorem dX6_init_12 : decode cX6_init 12 = .ok (.putfield 12, 3) := by decide +kernel
theorem dX6_init_15 : decode cX6_init 15 = .ok (.aload_n 0, 1) := by decide +kernel
theorem dX6_init_16 : decode cX6_init 16 = .ok (.aload_n 0, 1) := by decide +kernel
theorem dX6_init_17 : decode cX6_init 17 = .ok (.getfield 12, 3) := by decide +kernel
theorem dX6_init_20 : decode cX6_init 20 = .ok (.getfield 16, 3) := by decide +kernel
theorem dX6_init_23 : decode cX6_init 23 = .ok (.putfield 20, 3) := by decide +kernel
theorem dX6_init_26 : decode cX6_init 26 = .ok (.aload_n 0, 1) := by decide +kernel
theorem dX6_init_27 : decode cX6_init 27 = .ok (.aload_n 0, 1) := by decide +kernel
theorem dX6_init_28 : decode cX6_init 28 = .ok (.getfield 12, 3) := by decide +kernel
theorem dX6_init_31 : decode cX6_init 31 = .ok (.getfield 21, 3) := by decide +kernel
theorem dX6_init_34 : decode cX6_init 34 = .ok (.putfield 25, 3) := by decide +kernel
theorem dX6_init_37 : decode cX6_init 37 = .ok (.aload_n 0, 1) := by decide +kernel
theorem dX6_init_38 : decode cX6_init 38 = .ok (.aload_n 0, 1) := by decide +kernel
theorem dX6_init_39 : decode cX6_init 39 = .ok (.getfield 12, 3) := by decide +kernel
theorem dX6_init_42 : decode cX6_init 42 = .ok (.getfield 26, 3) := by decide +kernel
theorem dX6_init_45 : decode cX6_init 45 = .ok (.putfield 30, 3) := by decide +kernel
theorem dX6_init_48 : decode cX6_init 48 = .ok (.aload_n 0, 1) := by decide +kernel
theorem dX6_init_49 : decode cX6_init 49 = .ok (.new 31, 3) := by decide +kernel
theorem dX6_init_52 : decode cX6_init 52 = .ok (.dup, 1) := by decide +kernel
theorem dX6_init_53 : decode cX6_init 53 = .ok (.invokespecial 33, 3) := by decide +kernel
theorem dX6_init_56 : decode cX6_init 56 = .ok (.putfield 34, 3) := by decide +kernel
theorem dX6_init_59 : decode cX6_init 59 = .ok (.return_, 1) := by decide +kernel
theorem dX6_triple_0 : decode cX6_triple 0 = .ok (.iload_n 1, 1) := by decide +kernel
theorem dX6_triple_1 : decode cX6_triple 1 = .ok (.iconst 4, 1) := by decide +kernel
theorem dX6_triple_2 : decode cX6_triple 2 = .ok (.invokestatic 38, 3) := by decide +kernel
theorem dX6_triple_5 : decode cX6_triple 5 = .ok (.ifCond .eq 25, 3) := by decide +kernel
theorem dX6_triple_8 : decode cX6_triple 8 = .ok (.iload_n 2, 1) := by decide +kernel
theorem dX6_triple_9 : decode cX6_triple 9 = .ok (.invokestatic 42, 3) := by decide +kernel
theorem dX6_triple_12 : decode cX6_triple 12 = .ok (.ifCond .eq 18, 3) := by decide +kernel
theorem dX6_triple_15 : decode cX6_triple 15 = .ok (.iload_n 3, 1) := by decide +kernel
theorem dX6_triple_16 : decode cX6_triple 16 = .ok (.invokestatic 42, 3) := by decide +kernel
theorem dX6_triple_19 : decode cX6_triple 19 = .ok (.ifCond .eq 11, 3) := by decide +kernel
theorem dX6_triple_22 : decode cX6_triple 22 = .ok (.iload 4, 2) := by decide +kernel
theorem dX6_triple_24 : decode cX6_triple 24 = .ok (.invokestatic 42, 3) := by decide +kernel
theorem dX6_triple_27 : decode cX6_triple 27 = .ok (.ifCond .ne 5, 3) := by decide +kernel
theorem dX6_triple_30 : decode cX6_triple 30 = .ok (.iconst (-1), 1) := by decide +kernel
theorem dX6_triple_31 : decode cX6_triple 31 = .ok (.ireturn, 1) := by decide +kernel
theorem dX6_triple_32 : decode cX6_triple 32 = .ok (.aload_n 0, 1) := by decide +kernel
theorem dX6_triple_33 : decode cX6_triple 33 = .ok (.getfield 20, 3) := by decide +kernel
theorem dX6_triple_36 : decode cX6_triple 36 = .ok (.iload_n 1, 1) := by decide +kernel
theorem dX6_triple_37 : decode cX6_triple 37 = .ok (.iload_n 2, 1) := by decide +kernel
theorem dX6_triple_38 : decode cX6_triple 38 = .ok (.iload_n 3, 1) := by decide +kernel
theorem dX6_triple_39 : decode cX6_triple 39 = .ok (.iload 4, 2) := by decide +kernel
theorem dX6_triple_41 : decode cX6_triple 41 = .ok (.invokevirtual 46, 3) := by decide +kernel
theorem dX6_triple_44 : decode cX6_triple 44 = .ok (.ireturn, 1) := by decide +kernel
theorem dX6_leaf_0 : decode cX6_leaf 0 = .ok (.iload_n 1, 1) := by decide +kernel
theorem dX6_leaf_1 : decode cX6_leaf 1 = .ok (.iconst 3, 1) := by decide +kernel
theorem dX6_leaf_2 : decode cX6_leaf 2 = .ok (.invokestatic 38, 3) := by decide +kernel
theorem dX6_leaf_5 : decode cX6_leaf 5 = .ok (.ifCond .ne 5, 3) := by decide +kernel
theorem dX6_leaf_8 : decode cX6_leaf 8 = .ok (.iconst (-1), 1) := by decide +kernel
theorem dX6_leaf_9 : decode cX6_leaf 9 = .ok (.ireturn, 1) := by decide +kernel
theorem dX6_leaf_10 : decode cX6_leaf 10 = .ok (.iload_n 1, 1) := by decide +kernel
theorem dX6_leaf_11 : decode cX6_leaf 11 = .ok (.ifCond .ne 13, 3) := by decide +kernel
theorem dX6_leaf_14 : decode cX6_leaf 14 = .ok (.iload_n 2, 1) := by decide +kernel
theorem dX6_leaf_15 : decode cX6_leaf 15 = .ok (.i2l, 1) := by decide +kernel
theorem dX6_leaf_16 : decode cX6_leaf 16 = .ok (.ldc 54, 2) := by decide +kernel
theorem dX6_leaf_18 : decode cX6_leaf 18 = .ok (.invokestatic 55, 3) := by decide +kernel
theorem dX6_leaf_21 : decode cX6_leaf 21 = .ok (.goto 7, 3) := by decide +kernel
theorem dX6_leaf_24 : decode cX6_leaf 24 = .ok (.iload_n 2, 1) := by decide +kernel
theorem dX6_leaf_25 : decode cX6_leaf 25 = .ok (.invokestatic 59, 3) := by decide +kernel
theorem dX6_leaf_28 : decode cX6_leaf 28 = .ok (.istore_n 3, 1) := by decide +kernel
theorem dX6_leaf_29 : decode cX6_leaf 29 = .ok (.iload_n 3, 1) := by decide +kernel
theorem dX6_leaf_30 : decode cX6_leaf 30 = .ok (.ifCond .eq 15, 3) := by decide +kernel
theorem dX6_leaf_33 : decode cX6_leaf 33 = .ok (.aload_n 0, 1) := by decide +kernel
theorem dX6_leaf_34 : decode cX6_leaf 34 = .ok (.getfield 25, 3) := by decide +kernel
theorem dX6_leaf_37 : decode cX6_leaf 37 = .ok (.iload_n 1, 1) := by decide +kernel
theorem dX6_leaf_38 : decode cX6_leaf 38 = .ok (.iload_n 2, 1) := by decide +kernel
theorem dX6_leaf_39 : decode cX6_leaf 39 = .ok (.invokevirtual 62, 3) := by decide +kernel
theorem dX6_leaf_42 : decode cX6_leaf 42 = .ok (.goto 4, 3) := by decide +kernel
theorem dX6_leaf_45 : decode cX6_leaf 45 = .ok (.iconst (-1), 1) := by decide +kernel
theorem dX6_leaf_46 : decode cX6_leaf 46 = .ok (.ireturn, 1) := by decide +kernel
theorem dX6_apply_0 : decode cX6_apply 0 = .ok (.iload_n 1, 1) := by decide +kernel
theorem dX6_apply_1 : decode cX6_apply 1 = .ok (.bipush 9, 2) := by decide +kernel
theorem dX6_apply_3 : decode cX6_apply 3 = .ok (.invokestatic 38, 3) := by decide +kernel
theorem dX6_apply_6 : decode cX6_apply 6 = .ok (.ifCond .eq 14, 3) := by decide +kernel
theorem dX6_apply_9 : decode cX6_apply 9 = .ok (.aload_n 0, 1) := by decide +kernel
theorem dX6_apply_10 : decode cX6_apply 10 = .ok (.getfield 25, 3) := by decide +kernel
theorem dX6_apply_13 : decode cX6_apply 13 = .ok (.iload_n 2, 1) := by decide +kernel
theorem dX6_apply_14 : decode cX6_apply 14 = .ok (.invokevirtual 66, 3) := by decide +kernel
theorem dX6_apply_17 : decode cX6_apply 17 = .ok (.ifCond .ne 5, 3) := by decide +kernel
theorem dX6_apply_20 : decode cX6_apply 20 = .ok (.iconst (-1), 1) := by decide +kernel
theorem dX6_apply_21 : decode cX6_apply 21 = .ok (.ireturn, 1) := by decide +kernel
theorem dX6_apply_22 : decode cX6_apply 22 = .ok (.iload_n 1, 1) := by decide +kernel
theorem dX6_apply_23 : decode cX6_apply 23 = .ok (.bipush 8, 2) := by decide +kernel
theorem dX6_apply_25 : decode cX6_apply 25 = .ok (.if_icmp .ne 14, 3) := by decide +kernel
theorem dX6_apply_28 : decode cX6_apply 28 = .ok (.aload_n 0, 1) := by decide +kernel
theorem dX6_apply_29 : decode cX6_apply 29 = .ok (.getfield 25, 3) := by decide +kernel
theorem dX6_apply_32 : decode cX6_apply 32 = .ok (.iload_n 1, 1) := by decide +kernel
theorem dX6_apply_33 : decode cX6_apply 33 = .ok (.iload_n 2, 1) := by decide +kernel
theorem dX6_apply_34 : decode cX6_apply 34 = .ok (.iload_n 2, 1) := by decide +kernel
theorem dX6_apply_35 : decode cX6_apply 35 = .ok (.invokevirtual 69, 3) := by decide +kernel
theorem dX6_apply_38 : decode cX6_apply 38 = .ok (.ireturn, 1) := by decide +kernel
theorem dX6_apply_39 : decode cX6_apply 39 = .ok (.aload_n 0, 1) := by decide +kernel
theorem dX6_apply_40 : decode cX6_apply 40 = .ok (.getfield 25, 3) := by decide +kernel
theorem dX6_apply_43 : decode cX6_apply 43 = .ok (.iload_n 3, 1) := by decide +kernel
theorem dX6_apply_44 : decode cX6_apply 44 = .ok (.invokevirtual 66, 3) := by decide +kernel
theorem dX6_apply_47 : decode cX6_apply 47 = .ok (.ifCond .eq 16, 3) := by decide +kernel
theorem dX6_apply_50 : decode cX6_apply 50 = .ok (.aload_n 0, 1) := by decide +kernel
theorem dX6_apply_51 : decode cX6_apply 51 = .ok (.getfield 25, 3) := by decide +kernel
theorem dX6_apply_54 : decode cX6_apply 54 = .ok (.iload_n 1, 1) := by decide +kernel
theorem dX6_apply_55 : decode cX6_apply 55 = .ok (.iload_n 2, 1) := by decide +kernel
theorem dX6_apply_56 : decode cX6_apply 56 = .ok (.iload_n 3, 1) := by decide +kernel
theorem dX6_apply_57 : decode cX6_apply 57 = .ok (.invokevirtual 69, 3) := by decide +kernel
theorem dX6_apply_60 : decode cX6_apply 60 = .ok (.goto 4, 3) := by decide +kernel
theorem dX6_apply_63 : decode cX6_apply 63 = .ok (.iconst (-1), 1) := by decide +kernel
theorem dX6_apply_64 : decode cX6_apply 64 = .ok (.ireturn, 1) := by decide +kernel
theorem dX6_pattern_0 : decode cX6_pattern 0 = .ok (.aload_n 0, 1) := by decide +kernel
theorem dX6_pattern_1 : decode cX6_pattern 1 = .ok (.getfield 30, 3) := by decide +kernel
theorem dX6_pattern_4 : decode cX6_pattern 4 = .ok (.invokevirtual 73, 3) := by decide +kernel
theorem dX6_pattern_7 : decode cX6_pattern 7 = .ok (.ifCond .ne 24, 3) := by decide +kernel
theorem dX6_pattern_10 : decode cX6_pattern 10 = .ok (.iload_n 1, 1) := by decide +kernel
theorem dX6_pattern_11 : decode cX6_pattern 11 = .ok (.invokestatic 79, 3) := by decide +kernel
theorem dX6_pattern_14 : decode cX6_pattern 14 = .ok (.ifCond .eq 17, 3) := by decide +kernel
theorem dX6_pattern_17 : decode cX6_pattern 17 = .ok (.iload_n 2, 1) := by decide +kernel
theorem dX6_pattern_18 : decode cX6_pattern 18 = .ok (.invokestatic 79, 3) := by decide +kernel
theorem dX6_pattern_21 : decode cX6_pattern 21 = .ok (.ifCond .eq 10, 3) := by decide +kernel
theorem dX6_pattern_24 : decode cX6_pattern 24 = .ok (.iload_n 3, 1) := by decide +kernel
theorem dX6_pattern_25 : decode cX6_pattern 25 = .ok (.invokestatic 79, 3) := by decide +kernel
theorem dX6_pattern_28 : decode cX6_pattern 28 = .ok (.ifCond .ne 5, 3) := by decide +kernel
theorem dX6_pattern_31 : decode cX6_pattern 31 = .ok (.iconst (-1), 1) := by decide +kernel
theorem dX6_pattern_32 : decode cX6_pattern 32 = .ok (.ireturn, 1) := by decide +kernel
theorem dX6_pattern_33 : decode cX6_pattern 33 = .ok (.new 82, 3) := by decide +kernel
theorem dX6_pattern_36 : decode cX6_pattern 36 = .ok (.dup, 1) := by decide +kernel
theorem dX6_pattern_37 : decode cX6_pattern 37 = .ok (.iconst 0, 1) := by decide +kernel
theorem dX6_pattern_38 : decode cX6_pattern 38 = .ok (.iconst (-1), 1) := by decide +kernel
theorem dX6_pattern_39 : decode cX6_pattern 39 = .ok (.iconst (-1), 1) := by decide +kernel
theorem dX6_pattern_40 : decode cX6_pattern 40 = .ok (.invokespecial 84, 3) := by decide +kernel
theorem dX6_pattern_43 : decode cX6_pattern 43 = .ok (.astore 4, 2) := by decide +kernel
theorem dX6_pattern_45 : decode cX6_pattern 45 = .ok (.aload 4, 2) := by decide +kernel
theorem dX6_pattern_47 : decode cX6_pattern 47 = .ok (.iload_n 1, 1) := by decide +kernel
theorem dX6_pattern_48 : decode cX6_pattern 48 = .ok (.putfield 87, 3) := by decide +kernel
theorem dX6_pattern_51 : decode cX6_pattern 51 = .ok (.aload 4, 2) := by decide +kernel
theorem dX6_pattern_53 : decode cX6_pattern 53 = .ok (.iload_n 2, 1) := by decide +kernel
theorem dX6_pattern_54 : decode cX6_pattern 54 = .ok (.putfield 91, 3) := by decide +kernel
theorem dX6_pattern_57 : decode cX6_pattern 57 = .ok (.aload 4, 2) := by decide +kernel
theorem dX6_pattern_59 : decode cX6_pattern 59 = .ok (.iload_n 3, 1) := by decide +kernel
theorem dX6_pattern_60 : decode cX6_pattern 60 = .ok (.putfield 94, 3) := by decide +kernel
theorem dX6_pattern_63 : decode cX6_pattern 63 = .ok (.aload_n 0, 1) := by decide +kernel
theorem dX6_pattern_64 : decode cX6_pattern 64 = .ok (.getfield 30, 3) := by decide +kernel
theorem dX6_pattern_67 : decode cX6_pattern 67 = .ok (.aload 4, 2) := by decide +kernel
theorem dX6_pattern_69 : decode cX6_pattern 69 = .ok (.invokevirtual 97, 3) := by decide +kernel
theorem dX6_pattern_72 : decode cX6_pattern 72 = .ok (.ireturn, 1) := by decide +kernel
theorem dX6_both_0 : decode cX6_both 0 = .ok (.iload_n 1, 1) := by decide +kernel
theorem dX6_both_1 : decode cX6_both 1 = .ok (.iconst 3, 1) := by decide +kernel
theorem dX6_both_2 : decode cX6_both 2 = .ok (.invokestatic 38, 3) := by decide +kernel
theorem dX6_both_5 : decode cX6_both 5 = .ok (.ifCond .eq 25, 3) := by decide +kernel
theorem dX6_both_8 : decode cX6_both 8 = .ok (.aload_n 0, 1) := by decide +kernel
theorem dX6_both_9 : decode cX6_both 9 = .ok (.getfield 30, 3) := by decide +kernel
theorem dX6_both_12 : decode cX6_both 12 = .ok (.iload_n 2, 1) := by decide +kernel
theorem dX6_both_13 : decode cX6_both 13 = .ok (.invokevirtual 100, 3) := by decide +kernel
theorem dX6_both_16 : decode cX6_both 16 = .ok (.ifCond .eq 14, 3) := by decide +kernel
theorem dX6_both_19 : decode cX6_both 19 = .ok (.aload_n 0, 1) := by decide +kernel
theorem dX6_both_20 : decode cX6_both 20 = .ok (.getfield 30, 3) := by decide +kernel
theorem dX6_both_23 : decode cX6_both 23 = .ok (.iload_n 3, 1) := by decide +kernel
theorem dX6_both_24 : decode cX6_both 24 = .ok (.invokevirtual 103, 3) := by decide +kernel
theorem dX6_both_27 : decode cX6_both 27 = .ok (.ifCond .ne 5, 3) := by decide +kernel
theorem dX6_both_30 : decode cX6_both 30 = .ok (.iconst (-1), 1) := by decide +kernel
theorem dX6_both_31 : decode cX6_both 31 = .ok (.ireturn, 1) := by decide +kernel
theorem dX6_both_32 : decode cX6_both 32 = .ok (.aload_n 0, 1) := by decide +kernel
theorem dX6_both_33 : decode cX6_both 33 = .ok (.getfield 30, 3) := by decide +kernel
theorem dX6_both_36 : decode cX6_both 36 = .ok (.new 82, 3) := by decide +kernel
theorem dX6_both_39 : decode cX6_both 39 = .ok (.dup, 1) := by decide +kernel
theorem dX6_both_40 : decode cX6_both 40 = .ok (.iconst 1, 1) := by decide +kernel
theorem dX6_both_41 : decode cX6_both 41 = .ok (.iload_n 1, 1) := by decide +kernel
theorem dX6_both_42 : decode cX6_both 42 = .ok (.iadd, 1) := by decide +kernel
theorem dX6_both_43 : decode cX6_both 43 = .ok (.iload_n 2, 1) := by decide +kernel
theorem dX6_both_44 : decode cX6_both 44 = .ok (.iload_n 3, 1) := by decide +kernel
theorem dX6_both_45 : decode cX6_both 45 = .ok (.invokespecial 84, 3) := by decide +kernel
theorem dX6_both_48 : decode cX6_both 48 = .ok (.invokevirtual 97, 3) := by decide +kernel
theorem dX6_both_51 : decode cX6_both 51 = .ok (.ireturn, 1) := by decide +kernel
theorem dX6_left_0 : decode cX6_left 0 = .ok (.aload_n 0, 1) := by decide +kernel
theorem dX6_left_1 : decode cX6_left 1 = .ok (.getfield 30, 3) := by decide +kernel
theorem dX6_left_4 : decode cX6_left 4 = .ok (.iload_n 1, 1) := by decide +kernel
theorem dX6_left_5 : decode cX6_left 5 = .ok (.invokevirtual 100, 3) := by decide +kernel
theorem dX6_left_8 : decode cX6_left 8 = .ok (.ifCond .eq 30, 3) := by decide +kernel
theorem dX6_left_11 : decode cX6_left 11 = .ok (.aload_n 0, 1) := by decide +kernel
theorem dX6_left_12 : decode cX6_left 12 = .ok (.getfield 30, 3) := by decide +kernel
theorem dX6_left_15 : decode cX6_left 15 = .ok (.iload_n 2, 1) := by decide +kernel
theorem dX6_left_16 : decode cX6_left 16 = .ok (.invokevirtual 103, 3) := by decide +kernel
theorem dX6_left_19 : decode cX6_left 19 = .ok (.ifCond .eq 19, 3) := by decide +kernel
theorem dX6_left_22 : decode cX6_left 22 = .ok (.iload_n 3, 1) := by decide +kernel
theorem dX6_left_23 : decode cX6_left 23 = .ok (.iconst (-1), 1) := by decide +kernel
theorem dX6_left_24 : decode cX6_left 24 = .ok (.if_icmp .eq 16, 3) := by decide +kernel
theorem dX6_left_27 : decode cX6_left 27 = .ok (.aload_n 0, 1) := by decide +kernel
theorem dX6_left_28 : decode cX6_left 28 = .ok (.getfield 25, 3) := by decide +kernel
theorem dX6_left_31 : decode cX6_left 31 = .ok (.iload_n 3, 1) := by decide +kernel
theorem dX6_left_32 : decode cX6_left 32 = .ok (.invokevirtual 66, 3) := by decide +kernel
theorem dX6_left_35 : decode cX6_left 35 = .ok (.ifCond .ne 5, 3) := by decide +kernel
theorem dX6_left_38 : decode cX6_left 38 = .ok (.iconst (-1), 1) := by decide +kernel
theorem dX6_left_39 : decode cX6_left 39 = .ok (.ireturn, 1) := by decide +kernel
theorem dX6_left_40 : decode cX6_left 40 = .ok (.new 82, 3) := by decide +kernel
theorem dX6_left_43 : decode cX6_left 43 = .ok (.dup, 1) := by decide +kernel
theorem dX6_left_44 : decode cX6_left 44 = .ok (.iconst 4, 1) := by decide +kernel
theorem dX6_left_45 : decode cX6_left 45 = .ok (.iload_n 1, 1) := by decide +kernel
theorem dX6_left_46 : decode cX6_left 46 = .ok (.iload_n 2, 1) := by decide +kernel
theorem dX6_left_47 : decode cX6_left 47 = .ok (.invokespecial 84, 3) := by decide +kernel
theorem dX6_left_50 : decode cX6_left 50 = .ok (.astore 4, 2) := by decide +kernel
theorem dX6_left_52 : decode cX6_left 52 = .ok (.aload 4, 2) := by decide +kernel
theorem dX6_left_54 : decode cX6_left 54 = .ok (.iload_n 3, 1) := by decide +kernel
theorem dX6_left_55 : decode cX6_left 55 = .ok (.putfield 104, 3) := by decide +kernel
theorem dX6_left_58 : decode cX6_left 58 = .ok (.aload_n 0, 1) := by decide +kernel
theorem dX6_left_59 : decode cX6_left 59 = .ok (.getfield 30, 3) := by decide +kernel
theorem dX6_left_62 : decode cX6_left 62 = .ok (.aload 4, 2) := by decide +kernel
theorem dX6_left_64 : decode cX6_left 64 = .ok (.invokevirtual 97, 3) := by decide +kernel
theorem dX6_left_67 : decode cX6_left 67 = .ok (.ireturn, 1) := by decide +kernel
theorem dX6_filter_0 : decode cX6_filter 0 = .ok (.aload_n 0, 1) := by decide +kernel
theorem dX6_filter_1 : decode cX6_filter 1 = .ok (.getfield 30, 3) := by decide +kernel
theorem dX6_filter_4 : decode cX6_filter 4 = .ok (.iload_n 1, 1) := by decide +kernel
theorem dX6_filter_5 : decode cX6_filter 5 = .ok (.invokevirtual 100, 3) := by decide +kernel
theorem dX6_filter_8 : decode cX6_filter 8 = .ok (.ifCond .eq 14, 3) := by decide +kernel
theorem dX6_filter_11 : decode cX6_filter 11 = .ok (.aload_n 0, 1) := by decide +kernel
theorem dX6_filter_12 : decode cX6_filter 12 = .ok (.getfield 25, 3) := by decide +kernel
theorem dX6_filter_15 : decode cX6_filter 15 = .ok (.iload_n 2, 1) := by decide +kernel
theorem dX6_filter_16 : decode cX6_filter 16 = .ok (.invokevirtual 66, 3) := by decide +kernel
theorem dX6_filter_19 : decode cX6_filter 19 = .ok (.ifCond .ne 5, 3) := by decide +kernel
theorem dX6_filter_22 : decode cX6_filter 22 = .ok (.iconst (-1), 1) := by decide +kernel
theorem dX6_filter_23 : decode cX6_filter 23 = .ok (.ireturn, 1) := by decide +kernel
theorem dX6_filter_24 : decode cX6_filter 24 = .ok (.new 82, 3) := by decide +kernel
theorem dX6_filter_27 : decode cX6_filter 27 = .ok (.dup, 1) := by decide +kernel
theorem dX6_filter_28 : decode cX6_filter 28 = .ok (.iconst 5, 1) := by decide +kernel
theorem dX6_filter_29 : decode cX6_filter 29 = .ok (.iload_n 1, 1) := by decide +kernel
theorem dX6_filter_30 : decode cX6_filter 30 = .ok (.iconst (-1), 1) := by decide +kernel
theorem dX6_filter_31 : decode cX6_filter 31 = .ok (.invokespecial 84, 3) := by decide +kernel
theorem dX6_filter_34 : decode cX6_filter 34 = .ok (.astore_n 3, 1) := by decide +kernel
theorem dX6_filter_35 : decode cX6_filter 35 = .ok (.aload_n 3, 1) := by decide +kernel
theorem dX6_filter_36 : decode cX6_filter 36 = .ok (.iload_n 2, 1) := by decide +kernel
theorem dX6_filter_37 : decode cX6_filter 37 = .ok (.putfield 104, 3) := by decide +kernel
theorem dX6_filter_40 : decode cX6_filter 40 = .ok (.aload_n 0, 1) := by decide +kernel
theorem dX6_filter_41 : decode cX6_filter 41 = .ok (.getfield 30, 3) := by decide +kernel
theorem dX6_filter_44 : decode cX6_filter 44 = .ok (.aload_n 3, 1) := by decide +kernel
theorem dX6_filter_45 : decode cX6_filter 45 = .ok (.invokevirtual 97, 3) := by decide +kernel
theorem dX6_filter_48 : decode cX6_filter 48 = .ok (.ireturn, 1) := by decide +kernel
theorem dX6_extend_0 : decode cX6_extend 0 = .ok (.aload_n 0, 1) := by decide +kernel
theorem dX6_extend_1 : decode cX6_extend 1 = .ok (.getfield 30, 3) := by decide +kernel
theorem dX6_extend_4 : decode cX6_extend 4 = .ok (.iload_n 1, 1) := by decide +kernel
theorem dX6_extend_5 : decode cX6_extend 5 = .ok (.invokevirtual 100, 3) := by decide +kernel
theorem dX6_extend_8 : decode cX6_extend 8 = .ok (.ifCond .eq 21, 3) := by decide +kernel
theorem dX6_extend_11 : decode cX6_extend 11 = .ok (.iload_n 2, 1) := by decide +kernel
theorem dX6_extend_12 : decode cX6_extend 12 = .ok (.invokestatic 59, 3) := by decide +kernel
theorem dX6_extend_15 : decode cX6_extend 15 = .ok (.ifCond .eq 14, 3) := by decide +kernel
theorem dX6_extend_18 : decode cX6_extend 18 = .ok (.aload_n 0, 1) := by decide +kernel
theorem dX6_extend_19 : decode cX6_extend 19 = .ok (.getfield 25, 3) := by decide +kernel
theorem dX6_extend_22 : decode cX6_extend 22 = .ok (.iload_n 3, 1) := by decide +kernel
theorem dX6_extend_23 : decode cX6_extend 23 = .ok (.invokevirtual 66, 3) := by decide +kernel
theorem dX6_extend_26 : decode cX6_extend 26 = .ok (.ifCond .ne 5, 3) := by decide +kernel
theorem dX6_extend_29 : decode cX6_extend 29 = .ok (.iconst (-1), 1) := by decide +kernel
theorem dX6_extend_30 : decode cX6_extend 30 = .ok (.ireturn, 1) := by decide +kernel
theorem dX6_extend_31 : decode cX6_extend 31 = .ok (.new 82, 3) := by decide +kernel
theorem dX6_extend_34 : decode cX6_extend 34 = .ok (.dup, 1) := by decide +kernel
theorem dX6_extend_35 : decode cX6_extend 35 = .ok (.bipush 6, 2) := by decide +kernel
theorem dX6_extend_37 : decode cX6_extend 37 = .ok (.iload_n 1, 1) := by decide +kernel
theorem dX6_extend_38 : decode cX6_extend 38 = .ok (.iconst (-1), 1) := by decide +kernel
theorem dX6_extend_39 : decode cX6_extend 39 = .ok (.invokespecial 84, 3) := by decide +kernel
theorem dX6_extend_42 : decode cX6_extend 42 = .ok (.astore 4, 2) := by decide +kernel
theorem dX6_extend_44 : decode cX6_extend 44 = .ok (.aload 4, 2) := by decide +kernel
theorem dX6_extend_46 : decode cX6_extend 46 = .ok (.iload_n 2, 1) := by decide +kernel
theorem dX6_extend_47 : decode cX6_extend 47 = .ok (.putfield 107, 3) := by decide +kernel
theorem dX6_extend_50 : decode cX6_extend 50 = .ok (.aload 4, 2) := by decide +kernel
theorem dX6_extend_52 : decode cX6_extend 52 = .ok (.iload_n 3, 1) := by decide +kernel
theorem dX6_extend_53 : decode cX6_extend 53 = .ok (.putfield 104, 3) := by decide +kernel
theorem dX6_extend_56 : decode cX6_extend 56 = .ok (.aload_n 0, 1) := by decide +kernel
theorem dX6_extend_57 : decode cX6_extend 57 = .ok (.getfield 30, 3) := by decide +kernel
theorem dX6_extend_60 : decode cX6_extend 60 = .ok (.aload 4, 2) := by decide +kernel
theorem dX6_extend_62 : decode cX6_extend 62 = .ok (.invokevirtual 97, 3) := by decide +kernel
theorem dX6_extend_65 : decode cX6_extend 65 = .ok (.ireturn, 1) := by decide +kernel
theorem dX6_project_0 : decode cX6_project 0 = .ok (.aload_n 0, 1) := by decide +kernel
theorem dX6_project_1 : decode cX6_project 1 = .ok (.getfield 30, 3) := by decide +kernel
theorem dX6_project_4 : decode cX6_project 4 = .ok (.iload_n 1, 1) := by decide +kernel
theorem dX6_project_5 : decode cX6_project 5 = .ok (.invokevirtual 100, 3) := by decide +kernel
theorem dX6_project_8 : decode cX6_project 8 = .ok (.ifCond .eq 12, 3) := by decide +kernel
theorem dX6_project_11 : decode cX6_project 11 = .ok (.iload_n 2, 1) := by decide +kernel
theorem dX6_project_12 : decode cX6_project 12 = .ok (.bipush 64, 2) := by decide +kernel
theorem dX6_project_14 : decode cX6_project 14 = .ok (.invokestatic 38, 3) := by decide +kernel
theorem dX6_project_17 : decode cX6_project 17 = .ok (.ifCond .ne 5, 3) := by decide +kernel
theorem dX6_project_20 : decode cX6_project 20 = .ok (.iconst (-1), 1) := by decide +kernel
theorem dX6_project_21 : decode cX6_project 21 = .ok (.ireturn, 1) := by decide +kernel
theorem dX6_project_22 : decode cX6_project 22 = .ok (.new 82, 3) := by decide +kernel
theorem dX6_project_25 : decode cX6_project 25 = .ok (.dup, 1) := by decide +kernel
theorem dX6_project_26 : decode cX6_project 26 = .ok (.bipush 7, 2) := by decide +kernel
theorem dX6_project_28 : decode cX6_project 28 = .ok (.iload_n 1, 1) := by decide +kernel
theorem dX6_project_29 : decode cX6_project 29 = .ok (.iconst (-1), 1) := by decide +kernel
theorem dX6_project_30 : decode cX6_project 30 = .ok (.invokespecial 84, 3) := by decide +kernel
theorem dX6_project_33 : decode cX6_project 33 = .ok (.astore_n 3, 1) := by decide +kernel
theorem dX6_project_34 : decode cX6_project 34 = .ok (.aload_n 3, 1) := by decide +kernel
theorem dX6_project_35 : decode cX6_project 35 = .ok (.iload_n 2, 1) := by decide +kernel
theorem dX6_project_36 : decode cX6_project 36 = .ok (.putfield 110, 3) := by decide +kernel
theorem dX6_project_39 : decode cX6_project 39 = .ok (.aload_n 0, 1) := by decide +kernel
theorem dX6_project_40 : decode cX6_project 40 = .ok (.getfield 30, 3) := by decide +kernel
theorem dX6_project_43 : decode cX6_project 43 = .ok (.aload_n 3, 1) := by decide +kernel
theorem dX6_project_44 : decode cX6_project 44 = .ok (.invokevirtual 97, 3) := by decide +kernel
theorem dX6_project_47 : decode cX6_project 47 = .ok (.ireturn, 1) := by decide +kernel
theorem dX6_distinct_0 : decode cX6_distinct 0 = .ok (.aload_n 0, 1) := by decide +kernel
theorem dX6_distinct_1 : decode cX6_distinct 1 = .ok (.getfield 30, 3) := by decide +kernel
theorem dX6_distinct_4 : decode cX6_distinct 4 = .ok (.iload_n 1, 1) := by decide +kernel
theorem dX6_distinct_5 : decode cX6_distinct 5 = .ok (.invokevirtual 100, 3) := by decide +kernel
theorem dX6_distinct_8 : decode cX6_distinct 8 = .ok (.ifCond .eq 24, 3) := by decide +kernel
theorem dX6_distinct_11 : decode cX6_distinct 11 = .ok (.aload_n 0, 1) := by decide +kernel
theorem dX6_distinct_12 : decode cX6_distinct 12 = .ok (.getfield 30, 3) := by decide +kernel
theorem dX6_distinct_15 : decode cX6_distinct 15 = .ok (.new 82, 3) := by decide +kernel
theorem dX6_distinct_18 : decode cX6_distinct 18 = .ok (.dup, 1) := by decide +kernel
theorem dX6_distinct_19 : decode cX6_distinct 19 = .ok (.bipush 8, 2) := by decide +kernel
theorem dX6_distinct_21 : decode cX6_distinct 21 = .ok (.iload_n 1, 1) := by decide +kernel
theorem dX6_distinct_22 : decode cX6_distinct 22 = .ok (.iconst (-1), 1) := by decide +kernel
theorem dX6_distinct_23 : decode cX6_distinct 23 = .ok (.invokespecial 84, 3) := by decide +kernel
theorem dX6_distinct_26 : decode cX6_distinct 26 = .ok (.invokevirtual 97, 3) := by decide +kernel
theorem dX6_distinct_29 : decode cX6_distinct 29 = .ok (.goto 4, 3) := by decide +kernel
theorem dX6_distinct_32 : decode cX6_distinct 32 = .ok (.iconst (-1), 1) := by decide +kernel
theorem dX6_distinct_33 : decode cX6_distinct 33 = .ok (.ireturn, 1) := by decide +kernel
theorem dX6_slice_0 : decode cX6_slice 0 = .ok (.aload_n 0, 1) := by decide +kernel
theorem dX6_slice_1 : decode cX6_slice 1 = .ok (.getfield 30, 3) := by decide +kernel
theorem dX6_slice_4 : decode cX6_slice 4 = .ok (.iload_n 1, 1) := by decide +kernel
theorem dX6_slice_5 : decode cX6_slice 5 = .ok (.invokevirtual 100, 3) := by decide +kernel
theorem dX6_slice_8 : decode cX6_slice 8 = .ok (.ifCond .eq 17, 3) := by decide +kernel
theorem dX6_slice_11 : decode cX6_slice 11 = .ok (.iload_n 2, 1) := by decide +kernel
theorem dX6_slice_12 : decode cX6_slice 12 = .ok (.invokestatic 113, 3) := by decide +kernel
theorem dX6_slice_15 : decode cX6_slice 15 = .ok (.ifCond .eq 10, 3) := by decide +kernel
theorem dX6_slice_18 : decode cX6_slice 18 = .ok (.iload_n 3, 1) := by decide +kernel
theorem dX6_slice_19 : decode cX6_slice 19 = .ok (.invokestatic 113, 3) := by decide +kernel
theorem dX6_slice_22 : decode cX6_slice 22 = .ok (.ifCond .ne 5, 3) := by decide +kernel
theorem dX6_slice_25 : decode cX6_slice 25 = .ok (.iconst (-1), 1) := by decide +kernel
theorem dX6_slice_26 : decode cX6_slice 26 = .ok (.ireturn, 1) := by decide +kernel
theorem dX6_slice_27 : decode cX6_slice 27 = .ok (.new 82, 3) := by decide +kernel
theorem dX6_slice_30 : decode cX6_slice 30 = .ok (.dup, 1) := by decide +kernel
theorem dX6_slice_31 : decode cX6_slice 31 = .ok (.bipush 9, 2) := by decide +kernel
theorem dX6_slice_33 : decode cX6_slice 33 = .ok (.iload_n 1, 1) := by decide +kernel
theorem dX6_slice_34 : decode cX6_slice 34 = .ok (.iconst (-1), 1) := by decide +kernel
theorem dX6_slice_35 : decode cX6_slice 35 = .ok (.invokespecial 84, 3) := by decide +kernel
theorem dX6_slice_38 : decode cX6_slice 38 = .ok (.astore 4, 2) := by decide +kernel
theorem dX6_slice_40 : decode cX6_slice 40 = .ok (.aload 4, 2) := by decide +kernel
theorem dX6_slice_42 : decode cX6_slice 42 = .ok (.iload_n 2, 1) := by decide +kernel
theorem dX6_slice_43 : decode cX6_slice 43 = .ok (.putfield 116, 3) := by decide +kernel
theorem dX6_slice_46 : decode cX6_slice 46 = .ok (.aload 4, 2) := by decide +kernel
theorem dX6_slice_48 : decode cX6_slice 48 = .ok (.iload_n 3, 1) := by decide +kernel
theorem dX6_slice_49 : decode cX6_slice 49 = .ok (.putfield 119, 3) := by decide +kernel
theorem dX6_slice_52 : decode cX6_slice 52 = .ok (.aload_n 0, 1) := by decide +kernel
theorem dX6_slice_53 : decode cX6_slice 53 = .ok (.getfield 30, 3) := by decide +kernel
theorem dX6_slice_56 : decode cX6_slice 56 = .ok (.aload 4, 2) := by decide +kernel
theorem dX6_slice_58 : decode cX6_slice 58 = .ok (.invokevirtual 97, 3) := by decide +kernel
theorem dX6_slice_61 : decode cX6_slice 61 = .ok (.ireturn, 1) := by decide +kernel
theorem dX6_order_0 : decode cX6_order 0 = .ok (.aload_n 0, 1) := by decide +kernel
theorem dX6_order_1 : decode cX6_order 1 = .ok (.getfield 30, 3) := by decide +kernel
theorem dX6_order_4 : decode cX6_order 4 = .ok (.iload_n 1, 1) := by decide +kernel
theorem dX6_order_5 : decode cX6_order 5 = .ok (.invokevirtual 100, 3) := by decide +kernel
theorem dX6_order_8 : decode cX6_order 8 = .ok (.ifCond .eq 14, 3) := by decide +kernel
theorem dX6_order_11 : decode cX6_order 11 = .ok (.aload_n 0, 1) := by decide +kernel
theorem dX6_order_12 : decode cX6_order 12 = .ok (.getfield 25, 3) := by decide +kernel
theorem dX6_order_15 : decode cX6_order 15 = .ok (.iload_n 2, 1) := by decide +kernel
theorem dX6_order_16 : decode cX6_order 16 = .ok (.invokevirtual 66, 3) := by decide +kernel
theorem dX6_order_19 : decode cX6_order 19 = .ok (.ifCond .ne 5, 3) := by decide +kernel
theorem dX6_order_22 : decode cX6_order 22 = .ok (.iconst (-1), 1) := by decide +kernel
theorem dX6_order_23 : decode cX6_order 23 = .ok (.ireturn, 1) := by decide +kernel
theorem dX6_order_24 : decode cX6_order 24 = .ok (.new 82, 3) := by decide +kernel
theorem dX6_order_27 : decode cX6_order 27 = .ok (.dup, 1) := by decide +kernel
theorem dX6_order_28 : decode cX6_order 28 = .ok (.bipush 10, 2) := by decide +kernel
theorem dX6_order_30 : decode cX6_order 30 = .ok (.iload_n 1, 1) := by decide +kernel
theorem dX6_order_31 : decode cX6_order 31 = .ok (.iconst (-1), 1) := by decide +kernel
theorem dX6_order_32 : decode cX6_order 32 = .ok (.invokespecial 84, 3) := by decide +kernel
theorem dX6_order_35 : decode cX6_order 35 = .ok (.astore 4, 2) := by decide +kernel
theorem dX6_order_37 : decode cX6_order 37 = .ok (.aload 4, 2) := by decide +kernel
theorem dX6_order_39 : decode cX6_order 39 = .ok (.iload_n 2, 1) := by decide +kernel
theorem dX6_order_40 : decode cX6_order 40 = .ok (.putfield 104, 3) := by decide +kernel
theorem dX6_order_43 : decode cX6_order 43 = .ok (.aload 4, 2) := by decide +kernel
theorem dX6_order_45 : decode cX6_order 45 = .ok (.iload_n 3, 1) := by decide +kernel
theorem dX6_order_46 : decode cX6_order 46 = .ok (.putfield 122, 3) := by decide +kernel
theorem dX6_order_49 : decode cX6_order 49 = .ok (.aload_n 0, 1) := by decide +kernel
theorem dX6_order_50 : decode cX6_order 50 = .ok (.getfield 30, 3) := by decide +kernel
theorem dX6_order_53 : decode cX6_order 53 = .ok (.aload 4, 2) := by decide +kernel
theorem dX6_order_55 : decode cX6_order 55 = .ok (.invokevirtual 97, 3) := by decide +kernel
theorem dX6_order_58 : decode cX6_order 58 = .ok (.ireturn, 1) := by decide +kernel
theorem dX6_group_0 : decode cX6_group 0 = .ok (.aload_n 0, 1) := by decide +kernel
theorem dX6_group_1 : decode cX6_group 1 = .ok (.getfield 30, 3) := by decide +kernel
theorem dX6_group_4 : decode cX6_group 4 = .ok (.iload_n 1, 1) := by decide +kernel
theorem dX6_group_5 : decode cX6_group 5 = .ok (.invokevirtual 100, 3) := by decide +kernel
theorem dX6_group_8 : decode cX6_group 8 = .ok (.ifCond .eq 20, 3) := by decide +kernel
theorem dX6_group_11 : decode cX6_group 11 = .ok (.iload_n 2, 1) := by decide +kernel
theorem dX6_group_12 : decode cX6_group 12 = .ok (.bipush 64, 2) := by decide +kernel
theorem dX6_group_14 : decode cX6_group 14 = .ok (.invokestatic 38, 3) := by decide +kernel
theorem dX6_group_17 : decode cX6_group 17 = .ok (.ifCond .eq 11, 3) := by decide +kernel
theorem dX6_group_20 : decode cX6_group 20 = .ok (.iload_n 3, 1) := by decide +kernel
theorem dX6_group_21 : decode cX6_group 21 = .ok (.iconst 4, 1) := by decide +kernel
theorem dX6_group_22 : decode cX6_group 22 = .ok (.invokestatic 38, 3) := by decide +kernel
theorem dX6_group_25 : decode cX6_group 25 = .ok (.ifCond .ne 5, 3) := by decide +kernel
theorem dX6_group_28 : decode cX6_group 28 = .ok (.iconst (-1), 1) := by decide +kernel
theorem dX6_group_29 : decode cX6_group 29 = .ok (.ireturn, 1) := by decide +kernel
theorem dX6_group_30 : decode cX6_group 30 = .ok (.aload_n 0, 1) := by decide +kernel
theorem dX6_group_31 : decode cX6_group 31 = .ok (.getfield 25, 3) := by decide +kernel
theorem dX6_group_34 : decode cX6_group 34 = .ok (.iload 4, 2) := by decide +kernel
theorem dX6_group_36 : decode cX6_group 36 = .ok (.invokevirtual 66, 3) := by decide +kernel
theorem dX6_group_39 : decode cX6_group 39 = .ok (.ifCond .eq 20, 3) := by decide +kernel
theorem dX6_group_42 : decode cX6_group 42 = .ok (.iload 5, 2) := by decide +kernel
theorem dX6_group_44 : decode cX6_group 44 = .ok (.invokestatic 59, 3) := by decide +kernel
theorem dX6_group_47 : decode cX6_group 47 = .ok (.ifCond .eq 12, 3) := by decide +kernel
theorem dX6_group_50 : decode cX6_group 50 = .ok (.iload 5, 2) := by decide +kernel
theorem dX6_group_52 : decode cX6_group 52 = .ok (.iload_n 2, 1) := by decide +kernel
theorem dX6_group_53 : decode cX6_group 53 = .ok (.invokestatic 126, 3) := by decide +kernel
theorem dX6_group_56 : decode cX6_group 56 = .ok (.ifCond .eq 5, 3) := by decide +kernel
theorem dX6_group_59 : decode cX6_group 59 = .ok (.iconst (-1), 1) := by decide +kernel
theorem dX6_group_60 : decode cX6_group 60 = .ok (.ireturn, 1) := by decide +kernel
theorem dX6_group_61 : decode cX6_group 61 = .ok (.new 82, 3) := by decide +kernel
theorem dX6_group_64 : decode cX6_group 64 = .ok (.dup, 1) := by decide +kernel
theorem dX6_group_65 : decode cX6_group 65 = .ok (.bipush 11, 2) := by decide +kernel
theorem dX6_group_67 : decode cX6_group 67 = .ok (.iload_n 1, 1) := by decide +kernel
theorem dX6_group_68 : decode cX6_group 68 = .ok (.iconst (-1), 1) := by decide +kernel
theorem dX6_group_69 : decode cX6_group 69 = .ok (.invokespecial 84, 3) := by decide +kernel
theorem dX6_group_72 : decode cX6_group 72 = .ok (.astore 6, 2) := by decide +kernel
theorem dX6_group_74 : decode cX6_group 74 = .ok (.aload 6, 2) := by decide +kernel
theorem dX6_group_76 : decode cX6_group 76 = .ok (.iload_n 2, 1) := by decide +kernel
theorem dX6_group_77 : decode cX6_group 77 = .ok (.putfield 110, 3) := by decide +kernel
theorem dX6_group_80 : decode cX6_group 80 = .ok (.aload 6, 2) := by decide +kernel
theorem dX6_group_82 : decode cX6_group 82 = .ok (.iload_n 3, 1) := by decide +kernel
theorem dX6_group_83 : decode cX6_group 83 = .ok (.putfield 129, 3) := by decide +kernel
theorem dX6_group_86 : decode cX6_group 86 = .ok (.aload 6, 2) := by decide +kernel
theorem dX6_group_88 : decode cX6_group 88 = .ok (.iload 4, 2) := by decide +kernel
theorem dX6_group_90 : decode cX6_group 90 = .ok (.putfield 104, 3) := by decide +kernel
theorem dX6_group_93 : decode cX6_group 93 = .ok (.aload 6, 2) := by decide +kernel
theorem dX6_group_95 : decode cX6_group 95 = .ok (.iload 5, 2) := by decide +kernel
theorem dX6_group_97 : decode cX6_group 97 = .ok (.putfield 107, 3) := by decide +kernel
theorem dX6_group_100 : decode cX6_group 100 = .ok (.aload_n 0, 1) := by decide +kernel
theorem dX6_group_101 : decode cX6_group 101 = .ok (.getfield 30, 3) := by decide +kernel
theorem dX6_group_104 : decode cX6_group 104 = .ok (.aload 6, 2) := by decide +kernel
theorem dX6_group_106 : decode cX6_group 106 = .ok (.invokevirtual 97, 3) := by decide +kernel
theorem dX6_group_109 : decode cX6_group 109 = .ok (.ireturn, 1) := by decide +kernel
theorem dX6_graph_0 : decode cX6_graph 0 = .ok (.iload_n 1, 1) := by decide +kernel
theorem dX6_graph_1 : decode cX6_graph 1 = .ok (.iconst 4, 1) := by decide +kernel
theorem dX6_graph_2 : decode cX6_graph 2 = .ok (.invokestatic 38, 3) := by decide +kernel
theorem dX6_graph_5 : decode cX6_graph 5 = .ok (.ifCond .eq 14, 3) := by decide +kernel
theorem dX6_graph_8 : decode cX6_graph 8 = .ok (.aload_n 0, 1) := by decide +kernel
theorem dX6_graph_9 : decode cX6_graph 9 = .ok (.getfield 30, 3) := by decide +kernel
theorem dX6_graph_12 : decode cX6_graph 12 = .ok (.iload_n 2, 1) := by decide +kernel
theorem dX6_graph_13 : decode cX6_graph 13 = .ok (.invokevirtual 100, 3) := by decide +kernel
theorem dX6_graph_16 : decode cX6_graph 16 = .ok (.ifCond .ne 5, 3) := by decide +kernel
theorem dX6_graph_19 : decode cX6_graph 19 = .ok (.iconst (-1), 1) := by decide +kernel
theorem dX6_graph_20 : decode cX6_graph 20 = .ok (.ireturn, 1) := by decide +kernel
theorem dX6_graph_21 : decode cX6_graph 21 = .ok (.new 82, 3) := by decide +kernel
theorem dX6_graph_24 : decode cX6_graph 24 = .ok (.dup, 1) := by decide +kernel
theorem dX6_graph_25 : decode cX6_graph 25 = .ok (.bipush 12, 2) := by decide +kernel
theorem dX6_graph_27 : decode cX6_graph 27 = .ok (.iload_n 2, 1) := by decide +kernel
theorem dX6_graph_28 : decode cX6_graph 28 = .ok (.iconst (-1), 1) := by decide +kernel
theorem dX6_graph_29 : decode cX6_graph 29 = .ok (.invokespecial 84, 3) := by decide +kernel
theorem dX6_graph_32 : decode cX6_graph 32 = .ok (.astore_n 3, 1) := by decide +kernel
theorem dX6_graph_33 : decode cX6_graph 33 = .ok (.aload_n 3, 1) := by decide +kernel
theorem dX6_graph_34 : decode cX6_graph 34 = .ok (.iload_n 1, 1) := by decide +kernel
theorem dX6_graph_35 : decode cX6_graph 35 = .ok (.putfield 132, 3) := by decide +kernel
theorem dX6_graph_38 : decode cX6_graph 38 = .ok (.aload_n 0, 1) := by decide +kernel
theorem dX6_graph_39 : decode cX6_graph 39 = .ok (.getfield 30, 3) := by decide +kernel
theorem dX6_graph_42 : decode cX6_graph 42 = .ok (.aload_n 3, 1) := by decide +kernel
theorem dX6_graph_43 : decode cX6_graph 43 = .ok (.invokevirtual 97, 3) := by decide +kernel
theorem dX6_graph_46 : decode cX6_graph 46 = .ok (.ireturn, 1) := by decide +kernel
theorem dX6_graphs_0 : decode cX6_graphs 0 = .ok (.iload_n 1, 1) := by decide +kernel
theorem dX6_graphs_1 : decode cX6_graphs 1 = .ok (.invokestatic 59, 3) := by decide +kernel
theorem dX6_graphs_4 : decode cX6_graphs 4 = .ok (.ifCond .eq 14, 3) := by decide +kernel
theorem dX6_graphs_7 : decode cX6_graphs 7 = .ok (.aload_n 0, 1) := by decide +kernel
theorem dX6_graphs_8 : decode cX6_graphs 8 = .ok (.getfield 30, 3) := by decide +kernel
theorem dX6_graphs_11 : decode cX6_graphs 11 = .ok (.iload_n 2, 1) := by decide +kernel
theorem dX6_graphs_12 : decode cX6_graphs 12 = .ok (.invokevirtual 100, 3) := by decide +kernel
theorem dX6_graphs_15 : decode cX6_graphs 15 = .ok (.ifCond .ne 5, 3) := by decide +kernel
theorem dX6_graphs_18 : decode cX6_graphs 18 = .ok (.iconst (-1), 1) := by decide +kernel
theorem dX6_graphs_19 : decode cX6_graphs 19 = .ok (.ireturn, 1) := by decide +kernel
theorem dX6_graphs_20 : decode cX6_graphs 20 = .ok (.new 82, 3) := by decide +kernel
theorem dX6_graphs_23 : decode cX6_graphs 23 = .ok (.dup, 1) := by decide +kernel
theorem dX6_graphs_24 : decode cX6_graphs 24 = .ok (.bipush 13, 2) := by decide +kernel
theorem dX6_graphs_26 : decode cX6_graphs 26 = .ok (.iload_n 2, 1) := by decide +kernel
theorem dX6_graphs_27 : decode cX6_graphs 27 = .ok (.iconst (-1), 1) := by decide +kernel
theorem dX6_graphs_28 : decode cX6_graphs 28 = .ok (.invokespecial 84, 3) := by decide +kernel
theorem dX6_graphs_31 : decode cX6_graphs 31 = .ok (.astore_n 3, 1) := by decide +kernel
theorem dX6_graphs_32 : decode cX6_graphs 32 = .ok (.aload_n 3, 1) := by decide +kernel
theorem dX6_graphs_33 : decode cX6_graphs 33 = .ok (.iload_n 1, 1) := by decide +kernel
theorem dX6_graphs_34 : decode cX6_graphs 34 = .ok (.putfield 107, 3) := by decide +kernel
theorem dX6_graphs_37 : decode cX6_graphs 37 = .ok (.aload_n 0, 1) := by decide +kernel
theorem dX6_graphs_38 : decode cX6_graphs 38 = .ok (.getfield 30, 3) := by decide +kernel
theorem dX6_graphs_41 : decode cX6_graphs 41 = .ok (.aload_n 3, 1) := by decide +kernel
theorem dX6_graphs_42 : decode cX6_graphs 42 = .ok (.invokevirtual 97, 3) := by decide +kernel
theorem dX6_graphs_45 : decode cX6_graphs 45 = .ok (.ireturn, 1) := by decide +kernel
theorem dX6_run_0 : decode cX6_run 0 = .ok (.aload_n 0, 1) := by decide +kernel
theorem dX6_run_1 : decode cX6_run 1 = .ok (.getfield 30, 3) := by decide +kernel
theorem dX6_run_4 : decode cX6_run 4 = .ok (.iload_n 1, 1) := by decide +kernel
theorem dX6_run_5 : decode cX6_run 5 = .ok (.invokevirtual 103, 3) := by decide +kernel
theorem dX6_run_8 : decode cX6_run 8 = .ok (.ifCond .ne 5, 3) := by decide +kernel
theorem dX6_run_11 : decode cX6_run 11 = .ok (.iconst (-1), 1) := by decide +kernel
theorem dX6_run_12 : decode cX6_run 12 = .ok (.ireturn, 1) := by decide +kernel
theorem dX6_run_13 : decode cX6_run 13 = .ok (.aload_n 0, 1) := by decide +kernel
theorem dX6_run_14 : decode cX6_run 14 = .ok (.getfield 12, 3) := by decide +kernel
theorem dX6_run_17 : decode cX6_run 17 = .ok (.iload_n 1, 1) := by decide +kernel
theorem dX6_run_18 : decode cX6_run 18 = .ok (.invokevirtual 135, 3) := by decide +kernel
theorem dX6_run_21 : decode cX6_run 21 = .ok (.astore_n 2, 1) := by decide +kernel
theorem dX6_run_22 : decode cX6_run 22 = .ok (.aload_n 2, 1) := by decide +kernel
theorem dX6_run_23 : decode cX6_run 23 = .ok (.getfield 139, 3) := by decide +kernel
theorem dX6_run_26 : decode cX6_run 26 = .ok (.ifCond .eq 6, 3) := by decide +kernel
theorem dX6_run_29 : decode cX6_run 29 = .ok (.bipush (-2), 2) := by decide +kernel
theorem dX6_run_31 : decode cX6_run 31 = .ok (.ireturn, 1) := by decide +kernel
theorem dX6_run_32 : decode cX6_run 32 = .ok (.aload_n 0, 1) := by decide +kernel
theorem dX6_run_33 : decode cX6_run 33 = .ok (.getfield 34, 3) := by decide +kernel
theorem dX6_run_36 : decode cX6_run 36 = .ok (.aload_n 2, 1) := by decide +kernel
theorem dX6_run_37 : decode cX6_run 37 = .ok (.invokevirtual 142, 3) := by decide +kernel
theorem dX6_run_40 : decode cX6_run 40 = .ok (.aload_n 0, 1) := by decide +kernel
theorem dX6_run_41 : decode cX6_run 41 = .ok (.getfield 34, 3) := by decide +kernel
theorem dX6_run_44 : decode cX6_run 44 = .ok (.getfield 146, 3) := by decide +kernel
theorem dX6_run_47 : decode cX6_run 47 = .ok (.ireturn, 1) := by decide +kernel
theorem dX6_value_0 : decode cX6_value 0 = .ok (.iload_n 1, 1) := by decide +kernel
theorem dX6_value_1 : decode cX6_value 1 = .ok (.aload_n 0, 1) := by decide +kernel
theorem dX6_value_2 : decode cX6_value 2 = .ok (.getfield 34, 3) := by decide +kernel
theorem dX6_value_5 : decode cX6_value 5 = .ok (.getfield 146, 3) := by decide +kernel
theorem dX6_value_8 : decode cX6_value 8 = .ok (.invokestatic 38, 3) := by decide +kernel
theorem dX6_value_11 : decode cX6_value 11 = .ok (.ifCond .eq 22, 3) := by decide +kernel
theorem dX6_value_14 : decode cX6_value 14 = .ok (.iload_n 2, 1) := by decide +kernel
theorem dX6_value_15 : decode cX6_value 15 = .ok (.invokestatic 59, 3) := by decide +kernel
theorem dX6_value_18 : decode cX6_value 18 = .ok (.ifCond .eq 15, 3) := by decide +kernel
theorem dX6_value_21 : decode cX6_value 21 = .ok (.aload_n 0, 1) := by decide +kernel
theorem dX6_value_22 : decode cX6_value 22 = .ok (.getfield 34, 3) := by decide +kernel
theorem dX6_value_25 : decode cX6_value 25 = .ok (.iload_n 1, 1) := by decide +kernel
theorem dX6_value_26 : decode cX6_value 26 = .ok (.iload_n 2, 1) := by decide +kernel
theorem dX6_value_27 : decode cX6_value 27 = .ok (.invokevirtual 149, 3) := by decide +kernel
theorem dX6_value_30 : decode cX6_value 30 = .ok (.goto 5, 3) := by decide +kernel
theorem dX6_value_33 : decode cX6_value 33 = .ok (.ldc 152, 2) := by decide +kernel
theorem dX6_value_35 : decode cX6_value 35 = .ok (.ireturn, 1) := by decide +kernel
theorem dX6_look_0 : decode cX6_look 0 = .ok (.iload_n 1, 1) := by decide +kernel
theorem dX6_look_1 : decode cX6_look 1 = .ok (.aload_n 0, 1) := by decide +kernel
theorem dX6_look_2 : decode cX6_look 2 = .ok (.getfield 34, 3) := by decide +kernel
theorem dX6_look_5 : decode cX6_look 5 = .ok (.getfield 146, 3) := by decide +kernel
theorem dX6_look_8 : decode cX6_look 8 = .ok (.invokestatic 38, 3) := by decide +kernel
theorem dX6_look_11 : decode cX6_look 11 = .ok (.ifCond .eq 30, 3) := by decide +kernel
theorem dX6_look_14 : decode cX6_look 14 = .ok (.aload_n 0, 1) := by decide +kernel
theorem dX6_look_15 : decode cX6_look 15 = .ok (.getfield 25, 3) := by decide +kernel
theorem dX6_look_18 : decode cX6_look 18 = .ok (.iload_n 2, 1) := by decide +kernel
theorem dX6_look_19 : decode cX6_look 19 = .ok (.invokevirtual 66, 3) := by decide +kernel
theorem dX6_look_22 : decode cX6_look 22 = .ok (.ifCond .eq 19, 3) := by decide +kernel
theorem dX6_look_25 : decode cX6_look 25 = .ok (.aload_n 0, 1) := by decide +kernel
theorem dX6_look_26 : decode cX6_look 26 = .ok (.getfield 25, 3) := by decide +kernel
theorem dX6_look_29 : decode cX6_look 29 = .ok (.iload_n 2, 1) := by decide +kernel
theorem dX6_look_30 : decode cX6_look 30 = .ok (.aload_n 0, 1) := by decide +kernel
theorem dX6_look_31 : decode cX6_look 31 = .ok (.getfield 34, 3) := by decide +kernel
theorem dX6_look_34 : decode cX6_look 34 = .ok (.iload_n 1, 1) := by decide +kernel
theorem dX6_look_35 : decode cX6_look 35 = .ok (.invokevirtual 153, 3) := by decide +kernel
theorem dX6_look_38 : decode cX6_look 38 = .ok (.goto 5, 3) := by decide +kernel
theorem dX6_look_41 : decode cX6_look 41 = .ok (.ldc 152, 2) := by decide +kernel
theorem dX6_look_43 : decode cX6_look 43 = .ok (.ireturn, 1) := by decide +kernel
theorem dX6_many_0 : decode cX6_many 0 = .ok (.iload_n 1, 1) := by decide +kernel
theorem dX6_many_1 : decode cX6_many 1 = .ok (.aload_n 0, 1) := by decide +kernel
theorem dX6_many_2 : decode cX6_many 2 = .ok (.getfield 34, 3) := by decide +kernel
theorem dX6_many_5 : decode cX6_many 5 = .ok (.getfield 146, 3) := by decide +kernel
theorem dX6_many_8 : decode cX6_many 8 = .ok (.invokestatic 38, 3) := by decide +kernel
theorem dX6_many_11 : decode cX6_many 11 = .ok (.ifCond .eq 18, 3) := by decide +kernel
theorem dX6_many_14 : decode cX6_many 14 = .ok (.aload_n 0, 1) := by decide +kernel
theorem dX6_many_15 : decode cX6_many 15 = .ok (.getfield 34, 3) := by decide +kernel
theorem dX6_many_18 : decode cX6_many 18 = .ok (.aload_n 0, 1) := by decide +kernel
theorem dX6_many_19 : decode cX6_many 19 = .ok (.getfield 34, 3) := by decide +kernel
theorem dX6_many_22 : decode cX6_many 22 = .ok (.iload_n 1, 1) := by decide +kernel
theorem dX6_many_23 : decode cX6_many 23 = .ok (.invokevirtual 157, 3) := by decide +kernel
theorem dX6_many_26 : decode cX6_many 26 = .ok (.goto 4, 3) := by decide +kernel
theorem dX6_many_29 : decode cX6_many 29 = .ok (.iconst (-1), 1) := by decide +kernel
theorem dX6_many_30 : decode cX6_many 30 = .ok (.ireturn, 1) := by decide +kernel
theorem dX6_same_0 : decode cX6_same 0 = .ok (.aload_n 0, 1) := by decide +kernel
theorem dX6_same_1 : decode cX6_same 1 = .ok (.getfield 30, 3) := by decide +kernel
theorem dX6_same_4 : decode cX6_same 4 = .ok (.iload_n 1, 1) := by decide +kernel
theorem dX6_same_5 : decode cX6_same 5 = .ok (.invokevirtual 103, 3) := by decide +kernel
theorem dX6_same_8 : decode cX6_same 8 = .ok (.ifCond .eq 14, 3) := by decide +kernel
theorem dX6_same_11 : decode cX6_same 11 = .ok (.aload_n 0, 1) := by decide +kernel
theorem dX6_same_12 : decode cX6_same 12 = .ok (.getfield 30, 3) := by decide +kernel
theorem dX6_same_15 : decode cX6_same 15 = .ok (.iload_n 2, 1) := by decide +kernel
theorem dX6_same_16 : decode cX6_same 16 = .ok (.invokevirtual 103, 3) := by decide +kernel
theorem dX6_same_19 : decode cX6_same 19 = .ok (.ifCond .ne 5, 3) := by decide +kernel
theorem dX6_same_22 : decode cX6_same 22 = .ok (.iconst 0, 1) := by decide +kernel
theorem dX6_same_23 : decode cX6_same 23 = .ok (.ireturn, 1) := by decide +kernel
theorem dX6_same_24 : decode cX6_same 24 = .ok (.aload_n 0, 1) := by decide +kernel
theorem dX6_same_25 : decode cX6_same 25 = .ok (.getfield 12, 3) := by decide +kernel
theorem dX6_same_28 : decode cX6_same 28 = .ok (.iload_n 1, 1) := by decide +kernel
theorem dX6_same_29 : decode cX6_same 29 = .ok (.invokevirtual 135, 3) := by decide +kernel
theorem dX6_same_32 : decode cX6_same 32 = .ok (.astore_n 3, 1) := by decide +kernel
theorem dX6_same_33 : decode cX6_same 33 = .ok (.aload_n 0, 1) := by decide +kernel
theorem dX6_same_34 : decode cX6_same 34 = .ok (.getfield 12, 3) := by decide +kernel
theorem dX6_same_37 : decode cX6_same 37 = .ok (.iload_n 2, 1) := by decide +kernel
theorem dX6_same_38 : decode cX6_same 38 = .ok (.invokevirtual 135, 3) := by decide +kernel
theorem dX6_same_41 : decode cX6_same 41 = .ok (.astore 4, 2) := by decide +kernel
theorem dX6_same_43 : decode cX6_same 43 = .ok (.aload_n 3, 1) := by decide +kernel
theorem dX6_same_44 : decode cX6_same 44 = .ok (.getfield 139, 3) := by decide +kernel
theorem dX6_same_47 : decode cX6_same 47 = .ok (.ifCond .ne 24, 3) := by decide +kernel
theorem dX6_same_50 : decode cX6_same 50 = .ok (.aload 4, 2) := by decide +kernel
theorem dX6_same_52 : decode cX6_same 52 = .ok (.getfield 139, 3) := by decide +kernel
theorem dX6_same_55 : decode cX6_same 55 = .ok (.ifCond .ne 16, 3) := by decide +kernel
theorem dX6_same_58 : decode cX6_same 58 = .ok (.aload_n 3, 1) := by decide +kernel
theorem dX6_same_59 : decode cX6_same 59 = .ok (.aload 4, 2) := by decide +kernel
theorem dX6_same_61 : decode cX6_same 61 = .ok (.invokevirtual 161, 3) := by decide +kernel
theorem dX6_same_64 : decode cX6_same 64 = .ok (.ifCond .eq 7, 3) := by decide +kernel
theorem dX6_same_67 : decode cX6_same 67 = .ok (.iconst 1, 1) := by decide +kernel
theorem dX6_same_68 : decode cX6_same 68 = .ok (.goto 4, 3) := by decide +kernel
theorem dX6_same_71 : decode cX6_same 71 = .ok (.iconst 0, 1) := by decide +kernel
theorem dX6_same_72 : decode cX6_same 72 = .ok (.ireturn, 1) := by decide +kernel
theorem dX6_isBelow_0 : decode cX6_isBelow 0 = .ok (.iload_n 0, 1) := by decide +kernel
theorem dX6_isBelow_1 : decode cX6_isBelow 1 = .ok (.ifCond .lt 12, 3) := by decide +kernel
theorem dX6_isBelow_4 : decode cX6_isBelow 4 = .ok (.iload_n 0, 1) := by decide +kernel
theorem dX6_isBelow_5 : decode cX6_isBelow 5 = .ok (.iload_n 1, 1) := by decide +kernel
theorem dX6_isBelow_6 : decode cX6_isBelow 6 = .ok (.if_icmp .ge 7, 3) := by decide +kernel
theorem dX6_isBelow_9 : decode cX6_isBelow 9 = .ok (.iconst 1, 1) := by decide +kernel
theorem dX6_isBelow_10 : decode cX6_isBelow 10 = .ok (.goto 4, 3) := by decide +kernel
theorem dX6_isBelow_13 : decode cX6_isBelow 13 = .ok (.iconst 0, 1) := by decide +kernel
theorem dX6_isBelow_14 : decode cX6_isBelow 14 = .ok (.ireturn, 1) := by decide +kernel
theorem dX6_isWithin_0 : decode cX6_isWithin 0 = .ok (.lload_n 0, 1) := by decide +kernel
theorem dX6_isWithin_1 : decode cX6_isWithin 1 = .ok (.iload_n 2, 1) := by decide +kernel
theorem dX6_isWithin_2 : decode cX6_isWithin 2 = .ok (.ineg, 1) := by decide +kernel
theorem dX6_isWithin_3 : decode cX6_isWithin 3 = .ok (.i2l, 1) := by decide +kernel
theorem dX6_isWithin_4 : decode cX6_isWithin 4 = .ok (.lcmp, 1) := by decide +kernel
theorem dX6_isWithin_5 : decode cX6_isWithin 5 = .ok (.ifCond .lt 14, 3) := by decide +kernel
theorem dX6_isWithin_8 : decode cX6_isWithin 8 = .ok (.lload_n 0, 1) := by decide +kernel
theorem dX6_isWithin_9 : decode cX6_isWithin 9 = .ok (.iload_n 2, 1) := by decide +kernel
theorem dX6_isWithin_10 : decode cX6_isWithin 10 = .ok (.i2l, 1) := by decide +kernel
theorem dX6_isWithin_11 : decode cX6_isWithin 11 = .ok (.lcmp, 1) := by decide +kernel
theorem dX6_isWithin_12 : decode cX6_isWithin 12 = .ok (.ifCond .gt 7, 3) := by decide +kernel
theorem dX6_isWithin_15 : decode cX6_isWithin 15 = .ok (.iconst 1, 1) := by decide +kernel
theorem dX6_isWithin_16 : decode cX6_isWithin 16 = .ok (.goto 4, 3) := by decide +kernel
theorem dX6_isWithin_19 : decode cX6_isWithin 19 = .ok (.iconst 0, 1) := by decide +kernel
theorem dX6_isWithin_20 : decode cX6_isWithin 20 = .ok (.ireturn, 1) := by decide +kernel
theorem dX6_isTerm_0 : decode cX6_isTerm 0 = .ok (.iload_n 0, 1) := by decide +kernel
theorem dX6_isTerm_1 : decode cX6_isTerm 1 = .ok (.sipush 1000, 3) := by decide +kernel
theorem dX6_isTerm_4 : decode cX6_isTerm 4 = .ok (.invokestatic 38, 3) := by decide +kernel
theorem dX6_isTerm_7 : decode cX6_isTerm 7 = .ok (.ireturn, 1) := by decide +kernel
theorem dX6_isVariable_0 : decode cX6_isVariable 0 = .ok (.iload_n 0, 1) := by decide +kernel
theorem dX6_isVariable_1 : decode cX6_isVariable 1 = .ok (.bipush 6, 2) := by decide +kernel
theorem dX6_isVariable_3 : decode cX6_isVariable 3 = .ok (.invokestatic 38, 3) := by decide +kernel
theorem dX6_isVariable_6 : decode cX6_isVariable 6 = .ok (.ireturn, 1) := by decide +kernel
theorem dX6_isPlace_0 : decode cX6_isPlace 0 = .ok (.iload_n 0, 1) := by decide +kernel
theorem dX6_isPlace_1 : decode cX6_isPlace 1 = .ok (.bipush (-6), 2) := by decide +kernel
theorem dX6_isPlace_3 : decode cX6_isPlace 3 = .ok (.if_icmp .lt 14, 3) := by decide +kernel
theorem dX6_isPlace_6 : decode cX6_isPlace 6 = .ok (.iload_n 0, 1) := by decide +kernel
theorem dX6_isPlace_7 : decode cX6_isPlace 7 = .ok (.sipush 1000, 3) := by decide +kernel
theorem dX6_isPlace_10 : decode cX6_isPlace 10 = .ok (.if_icmp .ge 7, 3) := by decide +kernel
theorem dX6_isPlace_13 : decode cX6_isPlace 13 = .ok (.iconst 1, 1) := by decide +kernel
theorem dX6_isPlace_14 : decode cX6_isPlace 14 = .ok (.goto 4, 3) := by decide +kernel
theorem dX6_isPlace_17 : decode cX6_isPlace 17 = .ok (.iconst 0, 1) := by decide +kernel
theorem dX6_isPlace_18 : decode cX6_isPlace 18 = .ok (.ireturn, 1) := by decide +kernel
theorem dX6_isSliceNumber_0 : decode cX6_isSliceNumber 0 = .ok (.iload_n 0, 1) := by decide +kernel
theorem dX6_isSliceNumber_1 : decode cX6_isSliceNumber 1 = .ok (.ifCond .lt 14, 3) := by decide +kernel
theorem dX6_isSliceNumber_4 : decode cX6_isSliceNumber 4 = .ok (.iload_n 0, 1) := by decide +kernel
theorem dX6_isSliceNumber_5 : decode cX6_isSliceNumber 5 = .ok (.sipush 1000, 3) := by decide +kernel
theorem dX6_isSliceNumber_8 : decode cX6_isSliceNumber 8 = .ok (.if_icmp .gt 7, 3) := by decide +kernel
theorem dX6_isSliceNumber_11 : decode cX6_isSliceNumber 11 = .ok (.iconst 1, 1) := by decide +kernel
theorem dX6_isSliceNumber_12 : decode cX6_isSliceNumber 12 = .ok (.goto 4, 3) := by decide +kernel
theorem dX6_isSliceNumber_15 : decode cX6_isSliceNumber 15 = .ok (.iconst 0, 1) := by decide +kernel
theorem dX6_isSliceNumber_16 : decode cX6_isSliceNumber 16 = .ok (.ireturn, 1) := by decide +kernel
theorem dX6_isInSet_0 : decode cX6_isInSet 0 = .ok (.iload_n 1, 1) := by decide +kernel
theorem dX6_isInSet_1 : decode cX6_isInSet 1 = .ok (.iload_n 0, 1) := by decide +kernel
theorem dX6_isInSet_2 : decode cX6_isInSet 2 = .ok (.ishr, 1) := by decide +kernel
theorem dX6_isInSet_3 : decode cX6_isInSet 3 = .ok (.iconst 1, 1) := by decide +kernel
theorem dX6_isInSet_4 : decode cX6_isInSet 4 = .ok (.iand, 1) := by decide +kernel
theorem dX6_isInSet_5 : decode cX6_isInSet 5 = .ok (.ifCond .eq 7, 3) := by decide +kernel
theorem dX6_isInSet_8 : decode cX6_isInSet 8 = .ok (.iconst 1, 1) := by decide +kernel
theorem dX6_isInSet_9 : decode cX6_isInSet 9 = .ok (.goto 4, 3) := by decide +kernel
theorem dX6_isInSet_12 : decode cX6_isInSet 12 = .ok (.iconst 0, 1) := by decide +kernel
theorem dX6_isInSet_13 : decode cX6_isInSet 13 = .ok (.ireturn, 1) := by decide +kernel
theorem dX6_isTrue_0 : decode cX6_isTrue 0 = .ok (.iload_n 0, 1) := by decide +kernel
theorem dX6_isTrue_1 : decode cX6_isTrue 1 = .ok (.ifCond .eq 13, 3) := by decide +kernel
theorem dX6_isTrue_4 : decode cX6_isTrue 4 = .ok (.iload_n 0, 1) := by decide +kernel
theorem dX6_isTrue_5 : decode cX6_isTrue 5 = .ok (.ldc 152, 2) := by decide +kernel
theorem dX6_isTrue_7 : decode cX6_isTrue 7 = .ok (.if_icmp .eq 7, 3) := by decide +kernel
theorem dX6_isTrue_10 : decode cX6_isTrue 10 = .ok (.iconst 1, 1) := by decide +kernel
theorem dX6_isTrue_11 : decode cX6_isTrue 11 = .ok (.goto 4, 3) := by decide +kernel
theorem dX6_isTrue_14 : decode cX6_isTrue 14 = .ok (.iconst 0, 1) := by decide +kernel
theorem dX6_isTrue_15 : decode cX6_isTrue 15 = .ok (.ireturn, 1) := by decide +kernel
theorem dX6_valueOrError_0 : decode cX6_valueOrError 0 = .ok (.lload_n 0, 1) := by decide +kernel
theorem dX6_valueOrError_1 : decode cX6_valueOrError 1 = .ok (.ldc 165, 2) := by decide +kernel
theorem dX6_valueOrError_3 : decode cX6_valueOrError 3 = .ok (.invokestatic 55, 3) := by decide +kernel
theorem dX6_valueOrError_6 : decode cX6_valueOrError 6 = .ok (.ifCond .eq 8, 3) := by decide +kernel
theorem dX6_valueOrError_9 : decode cX6_valueOrError 9 = .ok (.lload_n 0, 1) := by decide +kernel
theorem dX6_valueOrError_10 : decode cX6_valueOrError 10 = .ok (.l2i, 1) := by decide +kernel
theorem dX6_valueOrError_11 : decode cX6_valueOrError 11 = .ok (.goto 5, 3) := by decide +kernel
theorem dX6_valueOrError_14 : decode cX6_valueOrError 14 = .ok (.ldc 152, 2) := by decide +kernel
theorem dX6_valueOrError_16 : decode cX6_valueOrError 16 = .ok (.ireturn, 1) := by decide +kernel
