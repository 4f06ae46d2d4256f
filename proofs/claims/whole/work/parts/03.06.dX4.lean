theorem dX4_init_0 : decode cX4_init 0 = .ok (.aload_n 0, 1) := by decide +kernel
theorem dX4_init_1 : decode cX4_init 1 = .ok (.invokespecial 3, 3) := by decide +kernel
theorem dX4_init_4 : decode cX4_init 4 = .ok (.aload_n 0, 1) := by decide +kernel
theorem dX4_init_5 : decode cX4_init 5 = .ok (.sipush 486, 3) := by decide +kernel
theorem dX4_init_8 : decode cX4_init 8 = .ok (.newarray .int, 2) := by decide +kernel
theorem dX4_init_10 : decode cX4_init 10 = .ok (.putfield 9, 3) := by decide +kernel
theorem dX4_init_13 : decode cX4_init 13 = .ok (.aload_n 0, 1) := by decide +kernel
theorem dX4_init_14 : decode cX4_init 14 = .ok (.iconst (-1), 1) := by decide +kernel
theorem dX4_init_15 : decode cX4_init 15 = .ok (.putfield 15, 3) := by decide +kernel
theorem dX4_init_18 : decode cX4_init 18 = .ok (.return_, 1) := by decide +kernel
theorem dX4_at_0 : decode cX4_at 0 = .ok (.aload_n 0, 1) := by decide +kernel
theorem dX4_at_1 : decode cX4_at 1 = .ok (.getfield 9, 3) := by decide +kernel
theorem dX4_at_4 : decode cX4_at 4 = .ok (.iload_n 1, 1) := by decide +kernel
theorem dX4_at_5 : decode cX4_at 5 = .ok (.bipush 6, 2) := by decide +kernel
theorem dX4_at_7 : decode cX4_at 7 = .ok (.imul, 1) := by decide +kernel
theorem dX4_at_8 : decode cX4_at 8 = .ok (.iload_n 2, 1) := by decide +kernel
theorem dX4_at_9 : decode cX4_at 9 = .ok (.iadd, 1) := by decide +kernel
theorem dX4_at_10 : decode cX4_at 10 = .ok (.iaload, 1) := by decide +kernel
theorem dX4_at_11 : decode cX4_at 11 = .ok (.ireturn, 1) := by decide +kernel
theorem dX4_put_0 : decode cX4_put 0 = .ok (.aload_n 0, 1) := by decide +kernel
theorem dX4_put_1 : decode cX4_put 1 = .ok (.getfield 9, 3) := by decide +kernel
theorem dX4_put_4 : decode cX4_put 4 = .ok (.iload_n 1, 1) := by decide +kernel
theorem dX4_put_5 : decode cX4_put 5 = .ok (.bipush 6, 2) := by decide +kernel
theorem dX4_put_7 : decode cX4_put 7 = .ok (.imul, 1) := by decide +kernel
theorem dX4_put_8 : decode cX4_put 8 = .ok (.iload_n 2, 1) := by decide +kernel
theorem dX4_put_9 : decode cX4_put 9 = .ok (.iadd, 1) := by decide +kernel
theorem dX4_put_10 : decode cX4_put 10 = .ok (.iload_n 3, 1) := by decide +kernel
theorem dX4_put_11 : decode cX4_put 11 = .ok (.iastore, 1) := by decide +kernel
theorem dX4_put_12 : decode cX4_put 12 = .ok (.return_, 1) := by decide +kernel
theorem dX4_clear_0 : decode cX4_clear 0 = .ok (.aload_n 0, 1) := by decide +kernel
theorem dX4_clear_1 : decode cX4_clear 1 = .ok (.iconst 0, 1) := by decide +kernel
theorem dX4_clear_2 : decode cX4_clear 2 = .ok (.putfield 19, 3) := by decide +kernel
theorem dX4_clear_5 : decode cX4_clear 5 = .ok (.aload_n 0, 1) := by decide +kernel
theorem dX4_clear_6 : decode cX4_clear 6 = .ok (.iconst 0, 1) := by decide +kernel
theorem dX4_clear_7 : decode cX4_clear 7 = .ok (.putfield 22, 3) := by decide +kernel
theorem dX4_clear_10 : decode cX4_clear 10 = .ok (.return_, 1) := by decide +kernel
theorem dX4_become_0 : decode cX4_become 0 = .ok (.aload_n 1, 1) := by decide +kernel
theorem dX4_become_1 : decode cX4_become 1 = .ok (.getfield 9, 3) := by decide +kernel
theorem dX4_become_4 : decode cX4_become 4 = .ok (.iconst 0, 1) := by decide +kernel
theorem dX4_become_5 : decode cX4_become 5 = .ok (.aload_n 0, 1) := by decide +kernel
theorem dX4_become_6 : decode cX4_become 6 = .ok (.getfield 9, 3) := by decide +kernel
theorem dX4_become_9 : decode cX4_become 9 = .ok (.iconst 0, 1) := by decide +kernel
theorem dX4_become_10 : decode cX4_become 10 = .ok (.aload_n 1, 1) := by decide +kernel
theorem dX4_become_11 : decode cX4_become 11 = .ok (.getfield 19, 3) := by decide +kernel
theorem dX4_become_14 : decode cX4_become 14 = .ok (.bipush 6, 2) := by decide +kernel
theorem dX4_become_16 : decode cX4_become 16 = .ok (.imul, 1) := by decide +kernel
theorem dX4_become_17 : decode cX4_become 17 = .ok (.invokestatic 26, 3) := by decide +kernel
theorem dX4_become_20 : decode cX4_become 20 = .ok (.aload_n 0, 1) := by decide +kernel
theorem dX4_become_21 : decode cX4_become 21 = .ok (.aload_n 1, 1) := by decide +kernel
theorem dX4_become_22 : decode cX4_become 22 = .ok (.getfield 19, 3) := by decide +kernel
theorem dX4_become_25 : decode cX4_become 25 = .ok (.putfield 19, 3) := by decide +kernel
theorem dX4_become_28 : decode cX4_become 28 = .ok (.return_, 1) := by decide +kernel
theorem dX4_draftOpen_0 : decode cX4_draftOpen 0 = .ok (.iconst 0, 1) := by decide +kernel
theorem dX4_draftOpen_1 : decode cX4_draftOpen 1 = .ok (.istore_n 1, 1) := by decide +kernel
theorem dX4_draftOpen_2 : decode cX4_draftOpen 2 = .ok (.iload_n 1, 1) := by decide +kernel
theorem dX4_draftOpen_3 : decode cX4_draftOpen 3 = .ok (.bipush 6, 2) := by decide +kernel
theorem dX4_draftOpen_5 : decode cX4_draftOpen 5 = .ok (.if_icmp .ge 20, 3) := by decide +kernel
theorem dX4_draftOpen_8 : decode cX4_draftOpen 8 = .ok (.aload_n 0, 1) := by decide +kernel
theorem dX4_draftOpen_9 : decode cX4_draftOpen 9 = .ok (.aload_n 0, 1) := by decide +kernel
theorem dX4_draftOpen_10 : decode cX4_draftOpen 10 = .ok (.getfield 19, 3) := by decide +kernel
theorem dX4_draftOpen_13 : decode cX4_draftOpen 13 = .ok (.iload_n 1, 1) := by decide +kernel
theorem dX4_draftOpen_14 : decode cX4_draftOpen 14 = .ok (.ldc 32, 2) := by decide +kernel
theorem dX4_draftOpen_16 : decode cX4_draftOpen 16 = .ok (.invokevirtual 33, 3) := by decide +kernel
theorem dX4_draftOpen_19 : decode cX4_draftOpen 19 = .ok (.iinc 1 1, 3) := by decide +kernel
theorem dX4_draftOpen_22 : decode cX4_draftOpen 22 = .ok (.goto (-20), 3) := by decide +kernel
theorem dX4_draftOpen_25 : decode cX4_draftOpen 25 = .ok (.return_, 1) := by decide +kernel
theorem dX4_draftOf_0 : decode cX4_draftOf 0 = .ok (.iconst 0, 1) := by decide +kernel
theorem dX4_draftOf_1 : decode cX4_draftOf 1 = .ok (.istore 4, 2) := by decide +kernel
theorem dX4_draftOf_3 : decode cX4_draftOf 3 = .ok (.iload 4, 2) := by decide +kernel
theorem dX4_draftOf_5 : decode cX4_draftOf 5 = .ok (.bipush 6, 2) := by decide +kernel
theorem dX4_draftOf_7 : decode cX4_draftOf 7 = .ok (.if_icmp .ge 40, 3) := by decide +kernel
theorem dX4_draftOf_10 : decode cX4_draftOf 10 = .ok (.aload_n 0, 1) := by decide +kernel
theorem dX4_draftOf_11 : decode cX4_draftOf 11 = .ok (.aload_n 0, 1) := by decide +kernel
theorem dX4_draftOf_12 : decode cX4_draftOf 12 = .ok (.getfield 19, 3) := by decide +kernel
theorem dX4_draftOf_15 : decode cX4_draftOf 15 = .ok (.iload 4, 2) := by decide +kernel
theorem dX4_draftOf_17 : decode cX4_draftOf 17 = .ok (.iload 4, 2) := by decide +kernel
theorem dX4_draftOf_19 : decode cX4_draftOf 19 = .ok (.iload_n 3, 1) := by decide +kernel
theorem dX4_draftOf_20 : decode cX4_draftOf 20 = .ok (.invokestatic 37, 3) := by decide +kernel
theorem dX4_draftOf_23 : decode cX4_draftOf 23 = .ok (.ifCond .eq 13, 3) := by decide +kernel
theorem dX4_draftOf_26 : decode cX4_draftOf 26 = .ok (.aload_n 1, 1) := by decide +kernel
theorem dX4_draftOf_27 : decode cX4_draftOf 27 = .ok (.iload_n 2, 1) := by decide +kernel
theorem dX4_draftOf_28 : decode cX4_draftOf 28 = .ok (.iload 4, 2) := by decide +kernel
theorem dX4_draftOf_30 : decode cX4_draftOf 30 = .ok (.invokevirtual 41, 3) := by decide +kernel
theorem dX4_draftOf_33 : decode cX4_draftOf 33 = .ok (.goto 5, 3) := by decide +kernel
theorem dX4_draftOf_36 : decode cX4_draftOf 36 = .ok (.ldc 32, 2) := by decide +kernel
theorem dX4_draftOf_38 : decode cX4_draftOf 38 = .ok (.invokevirtual 33, 3) := by decide +kernel
theorem dX4_draftOf_41 : decode cX4_draftOf 41 = .ok (.iinc 4 1, 3) := by decide +kernel
theorem dX4_draftOf_44 : decode cX4_draftOf 44 = .ok (.goto (-41), 3) := by decide +kernel
theorem dX4_draftOf_47 : decode cX4_draftOf 47 = .ok (.return_, 1) := by decide +kernel
theorem dX4_draftTogether_0 : decode cX4_draftTogether 0 = .ok (.iconst 0, 1) := by decide +kernel
theorem dX4_draftTogether_1 : decode cX4_draftTogether 1 = .ok (.istore 5, 2) := by decide +kernel
theorem dX4_draftTogether_3 : decode cX4_draftTogether 3 = .ok (.iload 5, 2) := by decide +kernel
theorem dX4_draftTogether_5 : decode cX4_draftTogether 5 = .ok (.bipush 6, 2) := by decide +kernel
theorem dX4_draftTogether_7 : decode cX4_draftTogether 7 = .ok (.if_icmp .ge 48, 3) := by decide +kernel
theorem dX4_draftTogether_10 : decode cX4_draftTogether 10 = .ok (.aload_n 1, 1) := by decide +kernel
theorem dX4_draftTogether_11 : decode cX4_draftTogether 11 = .ok (.iload_n 2, 1) := by decide +kernel
theorem dX4_draftTogether_12 : decode cX4_draftTogether 12 = .ok (.iload 5, 2) := by decide +kernel
theorem dX4_draftTogether_14 : decode cX4_draftTogether 14 = .ok (.invokevirtual 41, 3) := by decide +kernel
theorem dX4_draftTogether_17 : decode cX4_draftTogether 17 = .ok (.istore 6, 2) := by decide +kernel
theorem dX4_draftTogether_19 : decode cX4_draftTogether 19 = .ok (.aload_n 0, 1) := by decide +kernel
theorem dX4_draftTogether_20 : decode cX4_draftTogether 20 = .ok (.aload_n 0, 1) := by decide +kernel
theorem dX4_draftTogether_21 : decode cX4_draftTogether 21 = .ok (.getfield 19, 3) := by decide +kernel
theorem dX4_draftTogether_24 : decode cX4_draftTogether 24 = .ok (.iload 5, 2) := by decide +kernel
theorem dX4_draftTogether_26 : decode cX4_draftTogether 26 = .ok (.iload 6, 2) := by decide +kernel
theorem dX4_draftTogether_28 : decode cX4_draftTogether 28 = .ok (.ldc 32, 2) := by decide +kernel
theorem dX4_draftTogether_30 : decode cX4_draftTogether 30 = .ok (.if_icmp .ne 14, 3) := by decide +kernel
theorem dX4_draftTogether_33 : decode cX4_draftTogether 33 = .ok (.aload_n 3, 1) := by decide +kernel
theorem dX4_draftTogether_34 : decode cX4_draftTogether 34 = .ok (.iload 4, 2) := by decide +kernel
theorem dX4_draftTogether_36 : decode cX4_draftTogether 36 = .ok (.iload 5, 2) := by decide +kernel
theorem dX4_draftTogether_38 : decode cX4_draftTogether 38 = .ok (.invokevirtual 41, 3) := by decide +kernel
theorem dX4_draftTogether_41 : decode cX4_draftTogether 41 = .ok (.goto 5, 3) := by decide +kernel
theorem dX4_draftTogether_44 : decode cX4_draftTogether 44 = .ok (.iload 6, 2) := by decide +kernel
theorem dX4_draftTogether_46 : decode cX4_draftTogether 46 = .ok (.invokevirtual 33, 3) := by decide +kernel
theorem dX4_draftTogether_49 : decode cX4_draftTogether 49 = .ok (.iinc 5 1, 3) := by decide +kernel
theorem dX4_draftTogether_52 : decode cX4_draftTogether 52 = .ok (.goto (-49), 3) := by decide +kernel
theorem dX4_draftTogether_55 : decode cX4_draftTogether 55 = .ok (.return_, 1) := by decide +kernel
theorem dX4_draftTakes_0 : decode cX4_draftTakes 0 = .ok (.aload_n 0, 1) := by decide +kernel
theorem dX4_draftTakes_1 : decode cX4_draftTakes 1 = .ok (.aload_n 0, 1) := by decide +kernel
theorem dX4_draftTakes_2 : decode cX4_draftTakes 2 = .ok (.getfield 19, 3) := by decide +kernel
theorem dX4_draftTakes_5 : decode cX4_draftTakes 5 = .ok (.iload_n 1, 1) := by decide +kernel
theorem dX4_draftTakes_6 : decode cX4_draftTakes 6 = .ok (.invokevirtual 41, 3) := by decide +kernel
theorem dX4_draftTakes_9 : decode cX4_draftTakes 9 = .ok (.ldc 32, 2) := by decide +kernel
theorem dX4_draftTakes_11 : decode cX4_draftTakes 11 = .ok (.if_icmp .ne 13, 3) := by decide +kernel
theorem dX4_draftTakes_14 : decode cX4_draftTakes 14 = .ok (.aload_n 0, 1) := by decide +kernel
theorem dX4_draftTakes_15 : decode cX4_draftTakes 15 = .ok (.aload_n 0, 1) := by decide +kernel
theorem dX4_draftTakes_16 : decode cX4_draftTakes 16 = .ok (.getfield 19, 3) := by decide +kernel
theorem dX4_draftTakes_19 : decode cX4_draftTakes 19 = .ok (.iload_n 1, 1) := by decide +kernel
theorem dX4_draftTakes_20 : decode cX4_draftTakes 20 = .ok (.iload_n 2, 1) := by decide +kernel
theorem dX4_draftTakes_21 : decode cX4_draftTakes 21 = .ok (.invokevirtual 33, 3) := by decide +kernel
theorem dX4_draftTakes_24 : decode cX4_draftTakes 24 = .ok (.aload_n 0, 1) := by decide +kernel
theorem dX4_draftTakes_25 : decode cX4_draftTakes 25 = .ok (.aload_n 0, 1) := by decide +kernel
theorem dX4_draftTakes_26 : decode cX4_draftTakes 26 = .ok (.getfield 19, 3) := by decide +kernel
theorem dX4_draftTakes_29 : decode cX4_draftTakes 29 = .ok (.iload_n 1, 1) := by decide +kernel
theorem dX4_draftTakes_30 : decode cX4_draftTakes 30 = .ok (.invokevirtual 41, 3) := by decide +kernel
theorem dX4_draftTakes_33 : decode cX4_draftTakes 33 = .ok (.iload_n 2, 1) := by decide +kernel
theorem dX4_draftTakes_34 : decode cX4_draftTakes 34 = .ok (.if_icmp .ne 7, 3) := by decide +kernel
theorem dX4_draftTakes_37 : decode cX4_draftTakes 37 = .ok (.iconst 1, 1) := by decide +kernel
theorem dX4_draftTakes_38 : decode cX4_draftTakes 38 = .ok (.goto 4, 3) := by decide +kernel
theorem dX4_draftTakes_41 : decode cX4_draftTakes 41 = .ok (.iconst 0, 1) := by decide +kernel
theorem dX4_draftTakes_42 : decode cX4_draftTakes 42 = .ok (.ireturn, 1) := by decide +kernel
theorem dX4_keepDraft_0 : decode cX4_keepDraft 0 = .ok (.aload_n 0, 1) := by decide +kernel
theorem dX4_keepDraft_1 : decode cX4_keepDraft 1 = .ok (.getfield 19, 3) := by decide +kernel
theorem dX4_keepDraft_4 : decode cX4_keepDraft 4 = .ok (.bipush 80, 2) := by decide +kernel
theorem dX4_keepDraft_6 : decode cX4_keepDraft 6 = .ok (.if_icmp .ne 11, 3) := by decide +kernel
theorem dX4_keepDraft_9 : decode cX4_keepDraft 9 = .ok (.aload_n 0, 1) := by decide +kernel
theorem dX4_keepDraft_10 : decode cX4_keepDraft 10 = .ok (.iconst 1, 1) := by decide +kernel
theorem dX4_keepDraft_11 : decode cX4_keepDraft 11 = .ok (.putfield 22, 3) := by decide +kernel
theorem dX4_keepDraft_14 : decode cX4_keepDraft 14 = .ok (.goto 13, 3) := by decide +kernel
theorem dX4_keepDraft_17 : decode cX4_keepDraft 17 = .ok (.aload_n 0, 1) := by decide +kernel
theorem dX4_keepDraft_18 : decode cX4_keepDraft 18 = .ok (.dup, 1) := by decide +kernel
theorem dX4_keepDraft_19 : decode cX4_keepDraft 19 = .ok (.getfield 19, 3) := by decide +kernel
theorem dX4_keepDraft_22 : decode cX4_keepDraft 22 = .ok (.iconst 1, 1) := by decide +kernel
theorem dX4_keepDraft_23 : decode cX4_keepDraft 23 = .ok (.iadd, 1) := by decide +kernel
theorem dX4_keepDraft_24 : decode cX4_keepDraft 24 = .ok (.putfield 19, 3) := by decide +kernel
theorem dX4_keepDraft_27 : decode cX4_keepDraft 27 = .ok (.return_, 1) := by decide +kernel
theorem dX4_addAll_0 : decode cX4_addAll 0 = .ok (.iconst 0, 1) := by decide +kernel
theorem dX4_addAll_1 : decode cX4_addAll 1 = .ok (.istore_n 2, 1) := by decide +kernel
theorem dX4_addAll_2 : decode cX4_addAll 2 = .ok (.iload_n 2, 1) := by decide +kernel
theorem dX4_addAll_3 : decode cX4_addAll 3 = .ok (.aload_n 1, 1) := by decide +kernel
theorem dX4_addAll_4 : decode cX4_addAll 4 = .ok (.getfield 19, 3) := by decide +kernel
theorem dX4_addAll_7 : decode cX4_addAll 7 = .ok (.if_icmp .ge 15, 3) := by decide +kernel
theorem dX4_addAll_10 : decode cX4_addAll 10 = .ok (.aload_n 0, 1) := by decide +kernel
theorem dX4_addAll_11 : decode cX4_addAll 11 = .ok (.aload_n 1, 1) := by decide +kernel
theorem dX4_addAll_12 : decode cX4_addAll 12 = .ok (.iload_n 2, 1) := by decide +kernel
theorem dX4_addAll_13 : decode cX4_addAll 13 = .ok (.invokevirtual 45, 3) := by decide +kernel
theorem dX4_addAll_16 : decode cX4_addAll 16 = .ok (.iinc 2 1, 3) := by decide +kernel
theorem dX4_addAll_19 : decode cX4_addAll 19 = .ok (.goto (-17), 3) := by decide +kernel
theorem dX4_addAll_22 : decode cX4_addAll 22 = .ok (.return_, 1) := by decide +kernel
theorem dX4_addRow_0 : decode cX4_addRow 0 = .ok (.aload_n 0, 1) := by decide +kernel
theorem dX4_addRow_1 : decode cX4_addRow 1 = .ok (.aload_n 1, 1) := by decide +kernel
theorem dX4_addRow_2 : decode cX4_addRow 2 = .ok (.iload_n 2, 1) := by decide +kernel
theorem dX4_addRow_3 : decode cX4_addRow 3 = .ok (.bipush 63, 2) := by decide +kernel
theorem dX4_addRow_5 : decode cX4_addRow 5 = .ok (.invokevirtual 49, 3) := by decide +kernel
theorem dX4_addRow_8 : decode cX4_addRow 8 = .ok (.aload_n 0, 1) := by decide +kernel
theorem dX4_addRow_9 : decode cX4_addRow 9 = .ok (.invokevirtual 53, 3) := by decide +kernel
theorem dX4_addRow_12 : decode cX4_addRow 12 = .ok (.return_, 1) := by decide +kernel
theorem dX4_agrees_0 : decode cX4_agrees 0 = .ok (.iconst 0, 1) := by decide +kernel
theorem dX4_agrees_1 : decode cX4_agrees 1 = .ok (.istore 4, 2) := by decide +kernel
theorem dX4_agrees_3 : decode cX4_agrees 3 = .ok (.iload 4, 2) := by decide +kernel
theorem dX4_agrees_5 : decode cX4_agrees 5 = .ok (.bipush 6, 2) := by decide +kernel
theorem dX4_agrees_7 : decode cX4_agrees 7 = .ok (.if_icmp .ge 50, 3) := by decide +kernel
theorem dX4_agrees_10 : decode cX4_agrees 10 = .ok (.aload_n 0, 1) := by decide +kernel
theorem dX4_agrees_11 : decode cX4_agrees 11 = .ok (.iload_n 1, 1) := by decide +kernel
theorem dX4_agrees_12 : decode cX4_agrees 12 = .ok (.iload 4, 2) := by decide +kernel
theorem dX4_agrees_14 : decode cX4_agrees 14 = .ok (.invokevirtual 41, 3) := by decide +kernel
theorem dX4_agrees_17 : decode cX4_agrees 17 = .ok (.istore 5, 2) := by decide +kernel
theorem dX4_agrees_19 : decode cX4_agrees 19 = .ok (.aload_n 2, 1) := by decide +kernel
theorem dX4_agrees_20 : decode cX4_agrees 20 = .ok (.iload_n 3, 1) := by decide +kernel
theorem dX4_agrees_21 : decode cX4_agrees 21 = .ok (.iload 4, 2) := by decide +kernel
theorem dX4_agrees_23 : decode cX4_agrees 23 = .ok (.invokevirtual 41, 3) := by decide +kernel
theorem dX4_agrees_26 : decode cX4_agrees 26 = .ok (.istore 6, 2) := by decide +kernel
theorem dX4_agrees_28 : decode cX4_agrees 28 = .ok (.iload 5, 2) := by decide +kernel
theorem dX4_agrees_30 : decode cX4_agrees 30 = .ok (.ldc 32, 2) := by decide +kernel
theorem dX4_agrees_32 : decode cX4_agrees 32 = .ok (.if_icmp .eq 19, 3) := by decide +kernel
theorem dX4_agrees_35 : decode cX4_agrees 35 = .ok (.iload 6, 2) := by decide +kernel
theorem dX4_agrees_37 : decode cX4_agrees 37 = .ok (.ldc 32, 2) := by decide +kernel
theorem dX4_agrees_39 : decode cX4_agrees 39 = .ok (.if_icmp .eq 12, 3) := by decide +kernel
theorem dX4_agrees_42 : decode cX4_agrees 42 = .ok (.iload 5, 2) := by decide +kernel
theorem dX4_agrees_44 : decode cX4_agrees 44 = .ok (.iload 6, 2) := by decide +kernel
theorem dX4_agrees_46 : decode cX4_agrees 46 = .ok (.if_icmp .eq 5, 3) := by decide +kernel
theorem dX4_agrees_49 : decode cX4_agrees 49 = .ok (.iconst 0, 1) := by decide +kernel
theorem dX4_agrees_50 : decode cX4_agrees 50 = .ok (.ireturn, 1) := by decide +kernel
theorem dX4_agrees_51 : decode cX4_agrees 51 = .ok (.iinc 4 1, 3) := by decide +kernel
theorem dX4_agrees_54 : decode cX4_agrees 54 = .ok (.goto (-51), 3) := by decide +kernel
theorem dX4_agrees_57 : decode cX4_agrees 57 = .ok (.iconst 1, 1) := by decide +kernel
theorem dX4_agrees_58 : decode cX4_agrees 58 = .ok (.ireturn, 1) := by decide +kernel
theorem dX4_shares_0 : decode cX4_shares 0 = .ok (.iconst 0, 1) := by decide +kernel
theorem dX4_shares_1 : decode cX4_shares 1 = .ok (.istore 4, 2) := by decide +kernel
theorem dX4_shares_3 : decode cX4_shares 3 = .ok (.iload 4, 2) := by decide +kernel
theorem dX4_shares_5 : decode cX4_shares 5 = .ok (.bipush 6, 2) := by decide +kernel
theorem dX4_shares_7 : decode cX4_shares 7 = .ok (.if_icmp .ge 35, 3) := by decide +kernel
theorem dX4_shares_10 : decode cX4_shares 10 = .ok (.aload_n 0, 1) := by decide +kernel
theorem dX4_shares_11 : decode cX4_shares 11 = .ok (.iload_n 1, 1) := by decide +kernel
theorem dX4_shares_12 : decode cX4_shares 12 = .ok (.iload 4, 2) := by decide +kernel
theorem dX4_shares_14 : decode cX4_shares 14 = .ok (.invokevirtual 41, 3) := by decide +kernel
theorem dX4_shares_17 : decode cX4_shares 17 = .ok (.ldc 32, 2) := by decide +kernel
theorem dX4_shares_19 : decode cX4_shares 19 = .ok (.if_icmp .eq 17, 3) := by decide +kernel
theorem dX4_shares_22 : decode cX4_shares 22 = .ok (.aload_n 2, 1) := by decide +kernel
theorem dX4_shares_23 : decode cX4_shares 23 = .ok (.iload_n 3, 1) := by decide +kernel
theorem dX4_shares_24 : decode cX4_shares 24 = .ok (.iload 4, 2) := by decide +kernel
theorem dX4_shares_26 : decode cX4_shares 26 = .ok (.invokevirtual 41, 3) := by decide +kernel
theorem dX4_shares_29 : decode cX4_shares 29 = .ok (.ldc 32, 2) := by decide +kernel
theorem dX4_shares_31 : decode cX4_shares 31 = .ok (.if_icmp .eq 5, 3) := by decide +kernel
theorem dX4_shares_34 : decode cX4_shares 34 = .ok (.iconst 1, 1) := by decide +kernel
theorem dX4_shares_35 : decode cX4_shares 35 = .ok (.ireturn, 1) := by decide +kernel
theorem dX4_shares_36 : decode cX4_shares 36 = .ok (.iinc 4 1, 3) := by decide +kernel
theorem dX4_shares_39 : decode cX4_shares 39 = .ok (.goto (-36), 3) := by decide +kernel
theorem dX4_shares_42 : decode cX4_shares 42 = .ok (.iconst 0, 1) := by decide +kernel
theorem dX4_shares_43 : decode cX4_shares 43 = .ok (.ireturn, 1) := by decide +kernel
theorem dX4_isLike_0 : decode cX4_isLike 0 = .ok (.iconst 0, 1) := by decide +kernel
theorem dX4_isLike_1 : decode cX4_isLike 1 = .ok (.istore 5, 2) := by decide +kernel
theorem dX4_isLike_3 : decode cX4_isLike 3 = .ok (.iload 5, 2) := by decide +kernel
theorem dX4_isLike_5 : decode cX4_isLike 5 = .ok (.bipush 6, 2) := by decide +kernel
theorem dX4_isLike_7 : decode cX4_isLike 7 = .ok (.if_icmp .ge 38, 3) := by decide +kernel
theorem dX4_isLike_10 : decode cX4_isLike 10 = .ok (.iload 5, 2) := by decide +kernel
theorem dX4_isLike_12 : decode cX4_isLike 12 = .ok (.iload 4, 2) := by decide +kernel
theorem dX4_isLike_14 : decode cX4_isLike 14 = .ok (.invokestatic 37, 3) := by decide +kernel
theorem dX4_isLike_17 : decode cX4_isLike 17 = .ok (.ifCond .eq 22, 3) := by decide +kernel
theorem dX4_isLike_20 : decode cX4_isLike 20 = .ok (.aload_n 0, 1) := by decide +kernel
theorem dX4_isLike_21 : decode cX4_isLike 21 = .ok (.iload_n 1, 1) := by decide +kernel
theorem dX4_isLike_22 : decode cX4_isLike 22 = .ok (.iload 5, 2) := by decide +kernel
theorem dX4_isLike_24 : decode cX4_isLike 24 = .ok (.invokevirtual 41, 3) := by decide +kernel
theorem dX4_isLike_27 : decode cX4_isLike 27 = .ok (.aload_n 2, 1) := by decide +kernel
theorem dX4_isLike_28 : decode cX4_isLike 28 = .ok (.iload_n 3, 1) := by decide +kernel
theorem dX4_isLike_29 : decode cX4_isLike 29 = .ok (.iload 5, 2) := by decide +kernel
theorem dX4_isLike_31 : decode cX4_isLike 31 = .ok (.invokevirtual 41, 3) := by decide +kernel
theorem dX4_isLike_34 : decode cX4_isLike 34 = .ok (.if_icmp .eq 5, 3) := by decide +kernel
theorem dX4_isLike_37 : decode cX4_isLike 37 = .ok (.iconst 0, 1) := by decide +kernel
theorem dX4_isLike_38 : decode cX4_isLike 38 = .ok (.ireturn, 1) := by decide +kernel
theorem dX4_isLike_39 : decode cX4_isLike 39 = .ok (.iinc 5 1, 3) := by decide +kernel
theorem dX4_isLike_42 : decode cX4_isLike 42 = .ok (.goto (-39), 3) := by decide +kernel
theorem dX4_isLike_45 : decode cX4_isLike 45 = .ok (.iconst 1, 1) := by decide +kernel
theorem dX4_isLike_46 : decode cX4_isLike 46 = .ok (.ireturn, 1) := by decide +kernel
theorem dX4_hasLike_0 : decode cX4_hasLike 0 = .ok (.iconst 0, 1) := by decide +kernel
theorem dX4_hasLike_1 : decode cX4_hasLike 1 = .ok (.istore 4, 2) := by decide +kernel
theorem dX4_hasLike_3 : decode cX4_hasLike 3 = .ok (.iload 4, 2) := by decide +kernel
theorem dX4_hasLike_5 : decode cX4_hasLike 5 = .ok (.aload_n 0, 1) := by decide +kernel
theorem dX4_hasLike_6 : decode cX4_hasLike 6 = .ok (.getfield 19, 3) := by decide +kernel
theorem dX4_hasLike_9 : decode cX4_hasLike 9 = .ok (.if_icmp .ge 23, 3) := by decide +kernel
theorem dX4_hasLike_12 : decode cX4_hasLike 12 = .ok (.aload_n 0, 1) := by decide +kernel
theorem dX4_hasLike_13 : decode cX4_hasLike 13 = .ok (.iload 4, 2) := by decide +kernel
theorem dX4_hasLike_15 : decode cX4_hasLike 15 = .ok (.aload_n 1, 1) := by decide +kernel
theorem dX4_hasLike_16 : decode cX4_hasLike 16 = .ok (.iload_n 2, 1) := by decide +kernel
theorem dX4_hasLike_17 : decode cX4_hasLike 17 = .ok (.iload_n 3, 1) := by decide +kernel
theorem dX4_hasLike_18 : decode cX4_hasLike 18 = .ok (.invokevirtual 56, 3) := by decide +kernel
theorem dX4_hasLike_21 : decode cX4_hasLike 21 = .ok (.ifCond .eq 5, 3) := by decide +kernel
theorem dX4_hasLike_24 : decode cX4_hasLike 24 = .ok (.iconst 1, 1) := by decide +kernel
theorem dX4_hasLike_25 : decode cX4_hasLike 25 = .ok (.ireturn, 1) := by decide +kernel
theorem dX4_hasLike_26 : decode cX4_hasLike 26 = .ok (.iinc 4 1, 3) := by decide +kernel
theorem dX4_hasLike_29 : decode cX4_hasLike 29 = .ok (.goto (-26), 3) := by decide +kernel
theorem dX4_hasLike_32 : decode cX4_hasLike 32 = .ok (.iconst 0, 1) := by decide +kernel
theorem dX4_hasLike_33 : decode cX4_hasLike 33 = .ok (.ireturn, 1) := by decide +kernel
theorem dX4_countLike_0 : decode cX4_countLike 0 = .ok (.iconst 0, 1) := by decide +kernel
theorem dX4_countLike_1 : decode cX4_countLike 1 = .ok (.istore_n 3, 1) := by decide +kernel
theorem dX4_countLike_2 : decode cX4_countLike 2 = .ok (.iconst 0, 1) := by decide +kernel
theorem dX4_countLike_3 : decode cX4_countLike 3 = .ok (.istore 4, 2) := by decide +kernel
theorem dX4_countLike_5 : decode cX4_countLike 5 = .ok (.iload 4, 2) := by decide +kernel
theorem dX4_countLike_7 : decode cX4_countLike 7 = .ok (.aload_n 0, 1) := by decide +kernel
theorem dX4_countLike_8 : decode cX4_countLike 8 = .ok (.getfield 19, 3) := by decide +kernel
theorem dX4_countLike_11 : decode cX4_countLike 11 = .ok (.if_icmp .ge 25, 3) := by decide +kernel
theorem dX4_countLike_14 : decode cX4_countLike 14 = .ok (.aload_n 0, 1) := by decide +kernel
theorem dX4_countLike_15 : decode cX4_countLike 15 = .ok (.iload 4, 2) := by decide +kernel
theorem dX4_countLike_17 : decode cX4_countLike 17 = .ok (.aload_n 1, 1) := by decide +kernel
theorem dX4_countLike_18 : decode cX4_countLike 18 = .ok (.iload_n 2, 1) := by decide +kernel
theorem dX4_countLike_19 : decode cX4_countLike 19 = .ok (.bipush 63, 2) := by decide +kernel
theorem dX4_countLike_21 : decode cX4_countLike 21 = .ok (.invokevirtual 56, 3) := by decide +kernel
theorem dX4_countLike_24 : decode cX4_countLike 24 = .ok (.ifCond .eq 6, 3) := by decide +kernel
theorem dX4_countLike_27 : decode cX4_countLike 27 = .ok (.iinc 3 1, 3) := by decide +kernel
theorem dX4_countLike_30 : decode cX4_countLike 30 = .ok (.iinc 4 1, 3) := by decide +kernel
theorem dX4_countLike_33 : decode cX4_countLike 33 = .ok (.goto (-28), 3) := by decide +kernel
theorem dX4_countLike_36 : decode cX4_countLike 36 = .ok (.iload_n 3, 1) := by decide +kernel
theorem dX4_countLike_37 : decode cX4_countLike 37 = .ok (.ireturn, 1) := by decide +kernel
theorem dX4_isSameBagAs_0 : decode cX4_isSameBagAs 0 = .ok (.aload_n 0, 1) := by decide +kernel
theorem dX4_isSameBagAs_1 : decode cX4_isSameBagAs 1 = .ok (.getfield 19, 3) := by decide +kernel
theorem dX4_isSameBagAs_4 : decode cX4_isSameBagAs 4 = .ok (.aload_n 1, 1) := by decide +kernel
theorem dX4_isSameBagAs_5 : decode cX4_isSameBagAs 5 = .ok (.getfield 19, 3) := by decide +kernel
theorem dX4_isSameBagAs_8 : decode cX4_isSameBagAs 8 = .ok (.if_icmp .eq 5, 3) := by decide +kernel
theorem dX4_isSameBagAs_11 : decode cX4_isSameBagAs 11 = .ok (.iconst 0, 1) := by decide +kernel
theorem dX4_isSameBagAs_12 : decode cX4_isSameBagAs 12 = .ok (.ireturn, 1) := by decide +kernel
theorem dX4_isSameBagAs_13 : decode cX4_isSameBagAs 13 = .ok (.iconst 0, 1) := by decide +kernel
theorem dX4_isSameBagAs_14 : decode cX4_isSameBagAs 14 = .ok (.istore_n 2, 1) := by decide +kernel
theorem dX4_isSameBagAs_15 : decode cX4_isSameBagAs 15 = .ok (.iload_n 2, 1) := by decide +kernel
theorem dX4_isSameBagAs_16 : decode cX4_isSameBagAs 16 = .ok (.aload_n 0, 1) := by decide +kernel
theorem dX4_isSameBagAs_17 : decode cX4_isSameBagAs 17 = .ok (.getfield 19, 3) := by decide +kernel
theorem dX4_isSameBagAs_20 : decode cX4_isSameBagAs 20 = .ok (.if_icmp .ge 26, 3) := by decide +kernel
theorem dX4_isSameBagAs_23 : decode cX4_isSameBagAs 23 = .ok (.aload_n 0, 1) := by decide +kernel
theorem dX4_isSameBagAs_24 : decode cX4_isSameBagAs 24 = .ok (.aload_n 0, 1) := by decide +kernel
theorem dX4_isSameBagAs_25 : decode cX4_isSameBagAs 25 = .ok (.iload_n 2, 1) := by decide +kernel
theorem dX4_isSameBagAs_26 : decode cX4_isSameBagAs 26 = .ok (.invokevirtual 60, 3) := by decide +kernel
theorem dX4_isSameBagAs_29 : decode cX4_isSameBagAs 29 = .ok (.aload_n 1, 1) := by decide +kernel
theorem dX4_isSameBagAs_30 : decode cX4_isSameBagAs 30 = .ok (.aload_n 0, 1) := by decide +kernel
theorem dX4_isSameBagAs_31 : decode cX4_isSameBagAs 31 = .ok (.iload_n 2, 1) := by decide +kernel
theorem dX4_isSameBagAs_32 : decode cX4_isSameBagAs 32 = .ok (.invokevirtual 60, 3) := by decide +kernel
theorem dX4_isSameBagAs_35 : decode cX4_isSameBagAs 35 = .ok (.if_icmp .eq 5, 3) := by decide +kernel
theorem dX4_isSameBagAs_38 : decode cX4_isSameBagAs 38 = .ok (.iconst 0, 1) := by decide +kernel
theorem dX4_isSameBagAs_39 : decode cX4_isSameBagAs 39 = .ok (.ireturn, 1) := by decide +kernel
theorem dX4_isSameBagAs_40 : decode cX4_isSameBagAs 40 = .ok (.iinc 2 1, 3) := by decide +kernel
theorem dX4_isSameBagAs_43 : decode cX4_isSameBagAs 43 = .ok (.goto (-28), 3) := by decide +kernel
theorem dX4_isSameBagAs_46 : decode cX4_isSameBagAs 46 = .ok (.iconst 1, 1) := by decide +kernel
theorem dX4_isSameBagAs_47 : decode cX4_isSameBagAs 47 = .ok (.ireturn, 1) := by decide +kernel
