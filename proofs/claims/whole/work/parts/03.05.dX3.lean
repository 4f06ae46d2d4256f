theorem dX3_init_0 : decode cX3_init 0 = .ok (.aload_n 0, 1) := by decide +kernel
theorem dX3_init_1 : decode cX3_init 1 = .ok (.invokespecial 3, 3) := by decide +kernel
theorem dX3_init_4 : decode cX3_init 4 = .ok (.aload_n 0, 1) := by decide +kernel
theorem dX3_init_5 : decode cX3_init 5 = .ok (.bipush 30, 2) := by decide +kernel
theorem dX3_init_7 : decode cX3_init 7 = .ok (.anewarray 9, 3) := by decide +kernel
theorem dX3_init_10 : decode cX3_init 10 = .ok (.putfield 11, 3) := by decide +kernel
theorem dX3_init_13 : decode cX3_init 13 = .ok (.return_, 1) := by decide +kernel
theorem dX3_isFull_0 : decode cX3_isFull 0 = .ok (.aload_n 0, 1) := by decide +kernel
theorem dX3_isFull_1 : decode cX3_isFull 1 = .ok (.getfield 17, 3) := by decide +kernel
theorem dX3_isFull_4 : decode cX3_isFull 4 = .ok (.bipush 30, 2) := by decide +kernel
theorem dX3_isFull_6 : decode cX3_isFull 6 = .ok (.if_icmp .ne 7, 3) := by decide +kernel
theorem dX3_isFull_9 : decode cX3_isFull 9 = .ok (.iconst 1, 1) := by decide +kernel
theorem dX3_isFull_10 : decode cX3_isFull 10 = .ok (.goto 4, 3) := by decide +kernel
theorem dX3_isFull_13 : decode cX3_isFull 13 = .ok (.iconst 0, 1) := by decide +kernel
theorem dX3_isFull_14 : decode cX3_isFull 14 = .ok (.ireturn, 1) := by decide +kernel
theorem dX3_has_0 : decode cX3_has 0 = .ok (.iload_n 1, 1) := by decide +kernel
theorem dX3_has_1 : decode cX3_has 1 = .ok (.aload_n 0, 1) := by decide +kernel
theorem dX3_has_2 : decode cX3_has 2 = .ok (.getfield 17, 3) := by decide +kernel
theorem dX3_has_5 : decode cX3_has 5 = .ok (.invokestatic 21, 3) := by decide +kernel
theorem dX3_has_8 : decode cX3_has 8 = .ok (.ireturn, 1) := by decide +kernel
theorem dX3_canStandOver_0 : decode cX3_canStandOver 0 = .ok (.aload_n 0, 1) := by decide +kernel
theorem dX3_canStandOver_1 : decode cX3_canStandOver 1 = .ok (.invokevirtual 25, 3) := by decide +kernel
theorem dX3_canStandOver_4 : decode cX3_canStandOver 4 = .ok (.ifCond .ne 15, 3) := by decide +kernel
theorem dX3_canStandOver_7 : decode cX3_canStandOver 7 = .ok (.aload_n 0, 1) := by decide +kernel
theorem dX3_canStandOver_8 : decode cX3_canStandOver 8 = .ok (.iload_n 1, 1) := by decide +kernel
theorem dX3_canStandOver_9 : decode cX3_canStandOver 9 = .ok (.invokevirtual 29, 3) := by decide +kernel
theorem dX3_canStandOver_12 : decode cX3_canStandOver 12 = .ok (.ifCond .eq 7, 3) := by decide +kernel
theorem dX3_canStandOver_15 : decode cX3_canStandOver 15 = .ok (.iconst 1, 1) := by decide +kernel
theorem dX3_canStandOver_16 : decode cX3_canStandOver 16 = .ok (.goto 4, 3) := by decide +kernel
theorem dX3_canStandOver_19 : decode cX3_canStandOver 19 = .ok (.iconst 0, 1) := by decide +kernel
theorem dX3_canStandOver_20 : decode cX3_canStandOver 20 = .ok (.ireturn, 1) := by decide +kernel
theorem dX3_add_0 : decode cX3_add 0 = .ok (.aload_n 0, 1) := by decide +kernel
theorem dX3_add_1 : decode cX3_add 1 = .ok (.invokevirtual 25, 3) := by decide +kernel
theorem dX3_add_4 : decode cX3_add 4 = .ok (.ifCond .eq 5, 3) := by decide +kernel
theorem dX3_add_7 : decode cX3_add 7 = .ok (.iconst (-1), 1) := by decide +kernel
theorem dX3_add_8 : decode cX3_add 8 = .ok (.ireturn, 1) := by decide +kernel
theorem dX3_add_9 : decode cX3_add 9 = .ok (.aload_n 0, 1) := by decide +kernel
theorem dX3_add_10 : decode cX3_add 10 = .ok (.getfield 11, 3) := by decide +kernel
theorem dX3_add_13 : decode cX3_add 13 = .ok (.aload_n 0, 1) := by decide +kernel
theorem dX3_add_14 : decode cX3_add 14 = .ok (.getfield 17, 3) := by decide +kernel
theorem dX3_add_17 : decode cX3_add 17 = .ok (.aload_n 1, 1) := by decide +kernel
theorem dX3_add_18 : decode cX3_add 18 = .ok (.aastore, 1) := by decide +kernel
theorem dX3_add_19 : decode cX3_add 19 = .ok (.aload_n 0, 1) := by decide +kernel
theorem dX3_add_20 : decode cX3_add 20 = .ok (.dup, 1) := by decide +kernel
theorem dX3_add_21 : decode cX3_add 21 = .ok (.getfield 17, 3) := by decide +kernel
theorem dX3_add_24 : decode cX3_add 24 = .ok (.iconst 1, 1) := by decide +kernel
theorem dX3_add_25 : decode cX3_add 25 = .ok (.iadd, 1) := by decide +kernel
theorem dX3_add_26 : decode cX3_add 26 = .ok (.putfield 17, 3) := by decide +kernel
theorem dX3_add_29 : decode cX3_add 29 = .ok (.aload_n 0, 1) := by decide +kernel
theorem dX3_add_30 : decode cX3_add 30 = .ok (.getfield 17, 3) := by decide +kernel
theorem dX3_add_33 : decode cX3_add 33 = .ok (.iconst 1, 1) := by decide +kernel
theorem dX3_add_34 : decode cX3_add 34 = .ok (.isub, 1) := by decide +kernel
theorem dX3_add_35 : decode cX3_add 35 = .ok (.ireturn, 1) := by decide +kernel
theorem dX3_at_0 : decode cX3_at 0 = .ok (.aload_n 0, 1) := by decide +kernel
theorem dX3_at_1 : decode cX3_at 1 = .ok (.getfield 11, 3) := by decide +kernel
theorem dX3_at_4 : decode cX3_at 4 = .ok (.iload_n 1, 1) := by decide +kernel
theorem dX3_at_5 : decode cX3_at 5 = .ok (.aaload, 1) := by decide +kernel
theorem dX3_at_6 : decode cX3_at 6 = .ok (.areturn, 1) := by decide +kernel
