theorem dX7_extend_16 : decode cX7_extend 16 = .ok (.aload_n 0, 1) := by decide +kernel
theorem dX7_extend_17 : decode cX7_extend 17 = .ok (.iload_n 3, 1) := by decide +kernel
theorem dX7_extend_18 : decode cX7_extend 18 = .ok (.invokevirtual 66, 3) := by decide +kernel
theorem dX7_extend_21 : decode cX7_extend 21 = .ok (.ifCond .eq 7, 3) := by decide +kernel
theorem dX7_extend_24 : decode cX7_extend 24 = .ok (.iconst 1, 1) := by decide +kernel
theorem dX7_extend_25 : decode cX7_extend 25 = .ok (.goto 4, 3) := by decide +kernel
theorem dX7_extend_28 : decode cX7_extend 28 = .ok (.iconst 0, 1) := by decide +kernel
theorem dX7_extend_29 : decode cX7_extend 29 = .ok (.bipush 6, 2) := by decide +kernel
theorem dX7_extend_31 : decode cX7_extend 31 = .ok (.iload_n 1, 1) := by decide +kernel
theorem dX7_extend_32 : decode cX7_extend 32 = .ok (.iload_n 2, 1) := by decide +kernel
theorem dX7_extend_33 : decode cX7_extend 33 = .ok (.iload_n 3, 1) := by decide +kernel
theorem dX7_extend_34 : decode cX7_extend 34 = .ok (.iconst 0, 1) := by decide +kernel
theorem dX7_extend_35 : decode cX7_extend 35 = .ok (.iconst 0, 1) := by decide +kernel
theorem dX7_extend_36 : decode cX7_extend 36 = .ok (.invokevirtual 91, 3) := by decide +kernel
theorem dX7_extend_39 : decode cX7_extend 39 = .ok (.ireturn, 1) := by decide +kernel
theorem dX7_project_0 : decode cX7_project 0 = .ok (.aload_n 0, 1) := by decide +kernel
theorem dX7_project_1 : decode cX7_project 1 = .ok (.aload_n 0, 1) := by decide +kernel
theorem dX7_project_2 : decode cX7_project 2 = .ok (.iload_n 1, 1) := by decide +kernel
theorem dX7_project_3 : decode cX7_project 3 = .ok (.invokevirtual 95, 3) := by decide +kernel
theorem dX7_project_6 : decode cX7_project 6 = .ok (.ifCond .eq 17, 3) := by decide +kernel
theorem dX7_project_9 : decode cX7_project 9 = .ok (.iload_n 2, 1) := by decide +kernel
theorem dX7_project_10 : decode cX7_project 10 = .ok (.iconst 0, 1) := by decide +kernel
theorem dX7_project_11 : decode cX7_project 11 = .ok (.bipush 63, 2) := by decide +kernel
theorem dX7_project_13 : decode cX7_project 13 = .ok (.invokestatic 45, 3) := by decide +kernel
theorem dX7_project_16 : decode cX7_project 16 = .ok (.ifCond .eq 7, 3) := by decide +kernel
theorem dX7_project_19 : decode cX7_project 19 = .ok (.iconst 1, 1) := by decide +kernel
theorem dX7_project_20 : decode cX7_project 20 = .ok (.goto 4, 3) := by decide +kernel
theorem dX7_project_23 : decode cX7_project 23 = .ok (.iconst 0, 1) := by decide +kernel
theorem dX7_project_24 : decode cX7_project 24 = .ok (.bipush 7, 2) := by decide +kernel
theorem dX7_project_26 : decode cX7_project 26 = .ok (.iload_n 1, 1) := by decide +kernel
theorem dX7_project_27 : decode cX7_project 27 = .ok (.iload_n 2, 1) := by decide +kernel
theorem dX7_project_28 : decode cX7_project 28 = .ok (.iconst 0, 1) := by decide +kernel
theorem dX7_project_29 : decode cX7_project 29 = .ok (.iconst 0, 1) := by decide +kernel
theorem dX7_project_30 : decode cX7_project 30 = .ok (.iconst 0, 1) := by decide +kernel
theorem dX7_project_31 : decode cX7_project 31 = .ok (.invokevirtual 91, 3) := by decide +kernel
theorem dX7_project_34 : decode cX7_project 34 = .ok (.ireturn, 1) := by decide +kernel
theorem dX7_distinct_0 : decode cX7_distinct 0 = .ok (.aload_n 0, 1) := by decide +kernel
theorem dX7_distinct_1 : decode cX7_distinct 1 = .ok (.aload_n 0, 1) := by decide +kernel
theorem dX7_distinct_2 : decode cX7_distinct 2 = .ok (.iload_n 1, 1) := by decide +kernel
theorem dX7_distinct_3 : decode cX7_distinct 3 = .ok (.invokevirtual 95, 3) := by decide +kernel
theorem dX7_distinct_6 : decode cX7_distinct 6 = .ok (.bipush 8, 2) := by decide +kernel
theorem dX7_distinct_8 : decode cX7_distinct 8 = .ok (.iload_n 1, 1) := by decide +kernel
theorem dX7_distinct_9 : decode cX7_distinct 9 = .ok (.iconst 0, 1) := by decide +kernel
theorem dX7_distinct_10 : decode cX7_distinct 10 = .ok (.iconst 0, 1) := by decide +kernel
theorem dX7_distinct_11 : decode cX7_distinct 11 = .ok (.iconst 0, 1) := by decide +kernel
theorem dX7_distinct_12 : decode cX7_distinct 12 = .ok (.iconst 0, 1) := by decide +kernel
theorem dX7_distinct_13 : decode cX7_distinct 13 = .ok (.invokevirtual 91, 3) := by decide +kernel
theorem dX7_distinct_16 : decode cX7_distinct 16 = .ok (.ireturn, 1) := by decide +kernel
theorem dX7_slice_0 : decode cX7_slice 0 = .ok (.aload_n 0, 1) := by decide +kernel
theorem dX7_slice_1 : decode cX7_slice 1 = .ok (.aload_n 0, 1) := by decide +kernel
theorem dX7_slice_2 : decode cX7_slice 2 = .ok (.iload_n 1, 1) := by decide +kernel
theorem dX7_slice_3 : decode cX7_slice 3 = .ok (.invokevirtual 95, 3) := by decide +kernel
theorem dX7_slice_6 : decode cX7_slice 6 = .ok (.ifCond .eq 29, 3) := by decide +kernel
theorem dX7_slice_9 : decode cX7_slice 9 = .ok (.iload_n 2, 1) := by decide +kernel
theorem dX7_slice_10 : decode cX7_slice 10 = .ok (.iconst 0, 1) := by decide +kernel
theorem dX7_slice_11 : decode cX7_slice 11 = .ok (.sipush 1000, 3) := by decide +kernel
theorem dX7_slice_14 : decode cX7_slice 14 = .ok (.invokestatic 45, 3) := by decide +kernel
theorem dX7_slice_17 : decode cX7_slice 17 = .ok (.ifCond .eq 18, 3) := by decide +kernel
theorem dX7_slice_20 : decode cX7_slice 20 = .ok (.iload_n 3, 1) := by decide +kernel
theorem dX7_slice_21 : decode cX7_slice 21 = .ok (.iconst 0, 1) := by decide +kernel
theorem dX7_slice_22 : decode cX7_slice 22 = .ok (.sipush 1000, 3) := by decide +kernel
theorem dX7_slice_25 : decode cX7_slice 25 = .ok (.invokestatic 45, 3) := by decide +kernel
theorem dX7_slice_28 : decode cX7_slice 28 = .ok (.ifCond .eq 7, 3) := by decide +kernel
theorem dX7_slice_31 : decode cX7_slice 31 = .ok (.iconst 1, 1) := by decide +kernel
theorem dX7_slice_32 : decode cX7_slice 32 = .ok (.goto 4, 3) := by decide +kernel
theorem dX7_slice_35 : decode cX7_slice 35 = .ok (.iconst 0, 1) := by decide +kernel
theorem dX7_slice_36 : decode cX7_slice 36 = .ok (.bipush 9, 2) := by decide +kernel
theorem dX7_slice_38 : decode cX7_slice 38 = .ok (.iload_n 1, 1) := by decide +kernel
theorem dX7_slice_39 : decode cX7_slice 39 = .ok (.iload_n 2, 1) := by decide +kernel
theorem dX7_slice_40 : decode cX7_slice 40 = .ok (.iload_n 3, 1) := by decide +kernel
theorem dX7_slice_41 : decode cX7_slice 41 = .ok (.iconst 0, 1) := by decide +kernel
theorem dX7_slice_42 : decode cX7_slice 42 = .ok (.iconst 0, 1) := by decide +kernel
theorem dX7_slice_43 : decode cX7_slice 43 = .ok (.invokevirtual 91, 3) := by decide +kernel
theorem dX7_slice_46 : decode cX7_slice 46 = .ok (.ireturn, 1) := by decide +kernel
theorem dX7_order_0 : decode cX7_order 0 = .ok (.aload_n 0, 1) := by decide +kernel
theorem dX7_order_1 : decode cX7_order 1 = .ok (.aload_n 0, 1) := by decide +kernel
theorem dX7_order_2 : decode cX7_order 2 = .ok (.iload_n 1, 1) := by decide +kernel
theorem dX7_order_3 : decode cX7_order 3 = .ok (.invokevirtual 95, 3) := by decide +kernel
theorem dX7_order_6 : decode cX7_order 6 = .ok (.ifCond .eq 15, 3) := by decide +kernel
theorem dX7_order_9 : decode cX7_order 9 = .ok (.aload_n 0, 1) := by decide +kernel
theorem dX7_order_10 : decode cX7_order 10 = .ok (.iload_n 2, 1) := by decide +kernel
theorem dX7_order_11 : decode cX7_order 11 = .ok (.invokevirtual 66, 3) := by decide +kernel
theorem dX7_order_14 : decode cX7_order 14 = .ok (.ifCond .eq 7, 3) := by decide +kernel
theorem dX7_order_17 : decode cX7_order 17 = .ok (.iconst 1, 1) := by decide +kernel
theorem dX7_order_18 : decode cX7_order 18 = .ok (.goto 4, 3) := by decide +kernel
theorem dX7_order_21 : decode cX7_order 21 = .ok (.iconst 0, 1) := by decide +kernel
theorem dX7_order_22 : decode cX7_order 22 = .ok (.bipush 10, 2) := by decide +kernel
theorem dX7_order_24 : decode cX7_order 24 = .ok (.iload_n 1, 1) := by decide +kernel
theorem dX7_order_25 : decode cX7_order 25 = .ok (.iload_n 2, 1) := by decide +kernel
theorem dX7_order_26 : decode cX7_order 26 = .ok (.iload_n 3, 1) := by decide +kernel
theorem dX7_order_27 : decode cX7_order 27 = .ok (.ifCond .eq 7, 3) := by decide +kernel
theorem dX7_order_30 : decode cX7_order 30 = .ok (.iconst 1, 1) := by decide +kernel
theorem dX7_order_31 : decode cX7_order 31 = .ok (.goto 4, 3) := by decide +kernel
theorem dX7_order_34 : decode cX7_order 34 = .ok (.iconst 0, 1) := by decide +kernel
theorem dX7_order_35 : decode cX7_order 35 = .ok (.iconst 0, 1) := by decide +kernel
theorem dX7_order_36 : decode cX7_order 36 = .ok (.iconst 0, 1) := by decide +kernel
theorem dX7_order_37 : decode cX7_order 37 = .ok (.invokevirtual 91, 3) := by decide +kernel
theorem dX7_order_40 : decode cX7_order 40 = .ok (.ireturn, 1) := by decide +kernel
theorem dX7_group_0 : decode cX7_group 0 = .ok (.aload_n 0, 1) := by decide +kernel
theorem dX7_group_1 : decode cX7_group 1 = .ok (.iload_n 1, 1) := by decide +kernel
theorem dX7_group_2 : decode cX7_group 2 = .ok (.invokevirtual 95, 3) := by decide +kernel
theorem dX7_group_5 : decode cX7_group 5 = .ok (.ifCond .eq 52, 3) := by decide +kernel
theorem dX7_group_8 : decode cX7_group 8 = .ok (.iload_n 2, 1) := by decide +kernel
theorem dX7_group_9 : decode cX7_group 9 = .ok (.iconst 0, 1) := by decide +kernel
theorem dX7_group_10 : decode cX7_group 10 = .ok (.bipush 63, 2) := by decide +kernel
theorem dX7_group_12 : decode cX7_group 12 = .ok (.invokestatic 45, 3) := by decide +kernel
theorem dX7_group_15 : decode cX7_group 15 = .ok (.ifCond .eq 42, 3) := by decide +kernel
theorem dX7_group_18 : decode cX7_group 18 = .ok (.iload_n 3, 1) := by decide +kernel
theorem dX7_group_19 : decode cX7_group 19 = .ok (.iconst 0, 1) := by decide +kernel
theorem dX7_group_20 : decode cX7_group 20 = .ok (.iconst 3, 1) := by decide +kernel
theorem dX7_group_21 : decode cX7_group 21 = .ok (.invokestatic 45, 3) := by decide +kernel
theorem dX7_group_24 : decode cX7_group 24 = .ok (.ifCond .eq 33, 3) := by decide +kernel
theorem dX7_group_27 : decode cX7_group 27 = .ok (.aload_n 0, 1) := by decide +kernel
theorem dX7_group_28 : decode cX7_group 28 = .ok (.iload 4, 2) := by decide +kernel
theorem dX7_group_30 : decode cX7_group 30 = .ok (.invokevirtual 66, 3) := by decide +kernel
theorem dX7_group_33 : decode cX7_group 33 = .ok (.ifCond .eq 24, 3) := by decide +kernel
theorem dX7_group_36 : decode cX7_group 36 = .ok (.iload 5, 2) := by decide +kernel
theorem dX7_group_38 : decode cX7_group 38 = .ok (.invokestatic 58, 3) := by decide +kernel
theorem dX7_group_41 : decode cX7_group 41 = .ok (.ifCond .eq 16, 3) := by decide +kernel
theorem dX7_group_44 : decode cX7_group 44 = .ok (.iload_n 2, 1) := by decide +kernel
theorem dX7_group_45 : decode cX7_group 45 = .ok (.iload 5, 2) := by decide +kernel
theorem dX7_group_47 : decode cX7_group 47 = .ok (.ishr, 1) := by decide +kernel
theorem dX7_group_48 : decode cX7_group 48 = .ok (.iconst 1, 1) := by decide +kernel
theorem dX7_group_49 : decode cX7_group 49 = .ok (.iand, 1) := by decide +kernel
theorem dX7_group_50 : decode cX7_group 50 = .ok (.ifCond .ne 7, 3) := by decide +kernel
theorem dX7_group_53 : decode cX7_group 53 = .ok (.iconst 1, 1) := by decide +kernel
theorem dX7_group_54 : decode cX7_group 54 = .ok (.goto 4, 3) := by decide +kernel
theorem dX7_group_57 : decode cX7_group 57 = .ok (.iconst 0, 1) := by decide +kernel
theorem dX7_group_58 : decode cX7_group 58 = .ok (.istore 6, 2) := by decide +kernel
theorem dX7_group_60 : decode cX7_group 60 = .ok (.aload_n 0, 1) := by decide +kernel
theorem dX7_group_61 : decode cX7_group 61 = .ok (.iload 6, 2) := by decide +kernel
theorem dX7_group_63 : decode cX7_group 63 = .ok (.bipush 11, 2) := by decide +kernel
theorem dX7_group_65 : decode cX7_group 65 = .ok (.iload_n 1, 1) := by decide +kernel
theorem dX7_group_66 : decode cX7_group 66 = .ok (.iload_n 2, 1) := by decide +kernel
theorem dX7_group_67 : decode cX7_group 67 = .ok (.iload_n 3, 1) := by decide +kernel
theorem dX7_group_68 : decode cX7_group 68 = .ok (.iload 4, 2) := by decide +kernel
theorem dX7_group_70 : decode cX7_group 70 = .ok (.iload 5, 2) := by decide +kernel
theorem dX7_group_72 : decode cX7_group 72 = .ok (.invokevirtual 91, 3) := by decide +kernel
theorem dX7_group_75 : decode cX7_group 75 = .ok (.ireturn, 1) := by decide +kernel
theorem dX7_graph_0 : decode cX7_graph 0 = .ok (.aload_n 0, 1) := by decide +kernel
theorem dX7_graph_1 : decode cX7_graph 1 = .ok (.iload_n 1, 1) := by decide +kernel
theorem dX7_graph_2 : decode cX7_graph 2 = .ok (.iconst 0, 1) := by decide +kernel
theorem dX7_graph_3 : decode cX7_graph 3 = .ok (.iconst 3, 1) := by decide +kernel
theorem dX7_graph_4 : decode cX7_graph 4 = .ok (.invokestatic 45, 3) := by decide +kernel
theorem dX7_graph_7 : decode cX7_graph 7 = .ok (.ifCond .eq 15, 3) := by decide +kernel
theorem dX7_graph_10 : decode cX7_graph 10 = .ok (.aload_n 0, 1) := by decide +kernel
theorem dX7_graph_11 : decode cX7_graph 11 = .ok (.iload_n 2, 1) := by decide +kernel
theorem dX7_graph_12 : decode cX7_graph 12 = .ok (.invokevirtual 95, 3) := by decide +kernel
theorem dX7_graph_15 : decode cX7_graph 15 = .ok (.ifCond .eq 7, 3) := by decide +kernel
theorem dX7_graph_18 : decode cX7_graph 18 = .ok (.iconst 1, 1) := by decide +kernel
theorem dX7_graph_19 : decode cX7_graph 19 = .ok (.goto 4, 3) := by decide +kernel
theorem dX7_graph_22 : decode cX7_graph 22 = .ok (.iconst 0, 1) := by decide +kernel
theorem dX7_graph_23 : decode cX7_graph 23 = .ok (.bipush 12, 2) := by decide +kernel
theorem dX7_graph_25 : decode cX7_graph 25 = .ok (.iload_n 2, 1) := by decide +kernel
theorem dX7_graph_26 : decode cX7_graph 26 = .ok (.iload_n 1, 1) := by decide +kernel
theorem dX7_graph_27 : decode cX7_graph 27 = .ok (.iconst 0, 1) := by decide +kernel
theorem dX7_graph_28 : decode cX7_graph 28 = .ok (.iconst 0, 1) := by decide +kernel
theorem dX7_graph_29 : decode cX7_graph 29 = .ok (.iconst 0, 1) := by decide +kernel
theorem dX7_graph_30 : decode cX7_graph 30 = .ok (.invokevirtual 91, 3) := by decide +kernel
theorem dX7_graph_33 : decode cX7_graph 33 = .ok (.ireturn, 1) := by decide +kernel
theorem dX7_graphs_0 : decode cX7_graphs 0 = .ok (.aload_n 0, 1) := by decide +kernel
theorem dX7_graphs_1 : decode cX7_graphs 1 = .ok (.iload_n 1, 1) := by decide +kernel
theorem dX7_graphs_2 : decode cX7_graphs 2 = .ok (.invokestatic 58, 3) := by decide +kernel
theorem dX7_graphs_5 : decode cX7_graphs 5 = .ok (.ifCond .eq 15, 3) := by decide +kernel
theorem dX7_graphs_8 : decode cX7_graphs 8 = .ok (.aload_n 0, 1) := by decide +kernel
theorem dX7_graphs_9 : decode cX7_graphs 9 = .ok (.iload_n 2, 1) := by decide +kernel
theorem dX7_graphs_10 : decode cX7_graphs 10 = .ok (.invokevirtual 95, 3) := by decide +kernel
theorem dX7_graphs_13 : decode cX7_graphs 13 = .ok (.ifCond .eq 7, 3) := by decide +kernel
theorem dX7_graphs_16 : decode cX7_graphs 16 = .ok (.iconst 1, 1) := by decide +kernel
theorem dX7_graphs_17 : decode cX7_graphs 17 = .ok (.goto 4, 3) := by decide +kernel
theorem dX7_graphs_20 : decode cX7_graphs 20 = .ok (.iconst 0, 1) := by decide +kernel
theorem dX7_graphs_21 : decode cX7_graphs 21 = .ok (.bipush 13, 2) := by decide +kernel
theorem dX7_graphs_23 : decode cX7_graphs 23 = .ok (.iload_n 2, 1) := by decide +kernel
theorem dX7_graphs_24 : decode cX7_graphs 24 = .ok (.iload_n 1, 1) := by decide +kernel
theorem dX7_graphs_25 : decode cX7_graphs 25 = .ok (.iconst 0, 1) := by decide +kernel
theorem dX7_graphs_26 : decode cX7_graphs 26 = .ok (.iconst 0, 1) := by decide +kernel
theorem dX7_graphs_27 : decode cX7_graphs 27 = .ok (.iconst 0, 1) := by decide +kernel
theorem dX7_graphs_28 : decode cX7_graphs 28 = .ok (.invokevirtual 91, 3) := by decide +kernel
theorem dX7_graphs_31 : decode cX7_graphs 31 = .ok (.ireturn, 1) := by decide +kernel
theorem dX7_table_0 : decode cX7_table 0 = .ok (.iconst 4, 1) := by decide +kernel
theorem dX7_table_1 : decode cX7_table 1 = .ok (.iload_n 0, 1) := by decide +kernel
theorem dX7_table_2 : decode cX7_table 2 = .ok (.imul, 1) := by decide +kernel
theorem dX7_table_3 : decode cX7_table 3 = .ok (.iload_n 1, 1) := by decide +kernel
theorem dX7_table_4 : decode cX7_table 4 = .ok (.iadd, 1) := by decide +kernel
theorem dX7_table_5 : decode cX7_table 5 = .ok (.ireturn, 1) := by decide +kernel
theorem dX7_cell_0 : decode cX7_cell 0 = .ok (.aload_n 0, 1) := by decide +kernel
theorem dX7_cell_1 : decode cX7_cell 1 = .ok (.getfield 23, 3) := by decide +kernel
theorem dX7_cell_4 : decode cX7_cell 4 = .ok (.bipush 6, 2) := by decide +kernel
theorem dX7_cell_6 : decode cX7_cell 6 = .ok (.bipush 80, 2) := by decide +kernel
theorem dX7_cell_8 : decode cX7_cell 8 = .ok (.iload_n 1, 1) := by decide +kernel
theorem dX7_cell_9 : decode cX7_cell 9 = .ok (.imul, 1) := by decide +kernel
theorem dX7_cell_10 : decode cX7_cell 10 = .ok (.iload_n 2, 1) := by decide +kernel
theorem dX7_cell_11 : decode cX7_cell 11 = .ok (.iadd, 1) := by decide +kernel
theorem dX7_cell_12 : decode cX7_cell 12 = .ok (.imul, 1) := by decide +kernel
theorem dX7_cell_13 : decode cX7_cell 13 = .ok (.iload_n 3, 1) := by decide +kernel
theorem dX7_cell_14 : decode cX7_cell 14 = .ok (.iadd, 1) := by decide +kernel
theorem dX7_cell_15 : decode cX7_cell 15 = .ok (.iaload, 1) := by decide +kernel
theorem dX7_cell_16 : decode cX7_cell 16 = .ok (.ireturn, 1) := by decide +kernel
theorem dX7_take_0 : decode cX7_take 0 = .ok (.iconst 0, 1) := by decide +kernel
theorem dX7_take_1 : decode cX7_take 1 = .ok (.istore_n 3, 1) := by decide +kernel
theorem dX7_take_2 : decode cX7_take 2 = .ok (.iload_n 3, 1) := by decide +kernel
theorem dX7_take_3 : decode cX7_take 3 = .ok (.bipush 6, 2) := by decide +kernel
theorem dX7_take_5 : decode cX7_take 5 = .ok (.if_icmp .ge 22, 3) := by decide +kernel
theorem dX7_take_8 : decode cX7_take 8 = .ok (.aload_n 0, 1) := by decide +kernel
theorem dX7_take_9 : decode cX7_take 9 = .ok (.getfield 29, 3) := by decide +kernel
theorem dX7_take_12 : decode cX7_take 12 = .ok (.iload_n 3, 1) := by decide +kernel
theorem dX7_take_13 : decode cX7_take 13 = .ok (.aload_n 0, 1) := by decide +kernel
theorem dX7_take_14 : decode cX7_take 14 = .ok (.iload_n 1, 1) := by decide +kernel
theorem dX7_take_15 : decode cX7_take 15 = .ok (.iload_n 2, 1) := by decide +kernel
theorem dX7_take_16 : decode cX7_take 16 = .ok (.iload_n 3, 1) := by decide +kernel
theorem dX7_take_17 : decode cX7_take 17 = .ok (.invokevirtual 98, 3) := by decide +kernel
theorem dX7_take_20 : decode cX7_take 20 = .ok (.iastore, 1) := by decide +kernel
theorem dX7_take_21 : decode cX7_take 21 = .ok (.iinc 3 1, 3) := by decide +kernel
theorem dX7_take_24 : decode cX7_take 24 = .ok (.goto (-22), 3) := by decide +kernel
theorem dX7_take_27 : decode cX7_take 27 = .ok (.return_, 1) := by decide +kernel
theorem dX7_open_0 : decode cX7_open 0 = .ok (.iconst 0, 1) := by decide +kernel
theorem dX7_open_1 : decode cX7_open 1 = .ok (.istore_n 1, 1) := by decide +kernel
theorem dX7_open_2 : decode cX7_open 2 = .ok (.iload_n 1, 1) := by decide +kernel
theorem dX7_open_3 : decode cX7_open 3 = .ok (.bipush 6, 2) := by decide +kernel
theorem dX7_open_5 : decode cX7_open 5 = .ok (.if_icmp .ge 17, 3) := by decide +kernel
theorem dX7_open_8 : decode cX7_open 8 = .ok (.aload_n 0, 1) := by decide +kernel
theorem dX7_open_9 : decode cX7_open 9 = .ok (.getfield 29, 3) := by decide +kernel
theorem dX7_open_12 : decode cX7_open 12 = .ok (.iload_n 1, 1) := by decide +kernel
theorem dX7_open_13 : decode cX7_open 13 = .ok (.ldc 73, 2) := by decide +kernel
theorem dX7_open_15 : decode cX7_open 15 = .ok (.iastore, 1) := by decide +kernel
theorem dX7_open_16 : decode cX7_open 16 = .ok (.iinc 1 1, 3) := by decide +kernel
theorem dX7_open_19 : decode cX7_open 19 = .ok (.goto (-17), 3) := by decide +kernel
theorem dX7_open_22 : decode cX7_open 22 = .ok (.return_, 1) := by decide +kernel
theorem dX7_add_0 : decode cX7_add 0 = .ok (.aload_n 0, 1) := by decide +kernel
theorem dX7_add_1 : decode cX7_add 1 = .ok (.getfield 26, 3) := by decide +kernel
theorem dX7_add_4 : decode cX7_add 4 = .ok (.iload_n 1, 1) := by decide +kernel
theorem dX7_add_5 : decode cX7_add 5 = .ok (.iaload, 1) := by decide +kernel
theorem dX7_add_6 : decode cX7_add 6 = .ok (.bipush (-2), 2) := by decide +kernel
theorem dX7_add_8 : decode cX7_add 8 = .ok (.if_icmp .ne 4, 3) := by decide +kernel
theorem dX7_add_11 : decode cX7_add 11 = .ok (.return_, 1) := by decide +kernel
theorem dX7_add_12 : decode cX7_add 12 = .ok (.aload_n 0, 1) := by decide +kernel
theorem dX7_add_13 : decode cX7_add 13 = .ok (.getfield 26, 3) := by decide +kernel
theorem dX7_add_16 : decode cX7_add 16 = .ok (.iload_n 1, 1) := by decide +kernel
theorem dX7_add_17 : decode cX7_add 17 = .ok (.iaload, 1) := by decide +kernel
theorem dX7_add_18 : decode cX7_add 18 = .ok (.bipush 80, 2) := by decide +kernel
theorem dX7_add_20 : decode cX7_add 20 = .ok (.if_icmp .ne 12, 3) := by decide +kernel
theorem dX7_add_23 : decode cX7_add 23 = .ok (.aload_n 0, 1) := by decide +kernel
theorem dX7_add_24 : decode cX7_add 24 = .ok (.getfield 26, 3) := by decide +kernel
theorem dX7_add_27 : decode cX7_add 27 = .ok (.iload_n 1, 1) := by decide +kernel
theorem dX7_add_28 : decode cX7_add 28 = .ok (.bipush (-2), 2) := by decide +kernel
theorem dX7_add_30 : decode cX7_add 30 = .ok (.iastore, 1) := by decide +kernel
theorem dX7_add_31 : decode cX7_add 31 = .ok (.return_, 1) := by decide +kernel
theorem dX7_add_32 : decode cX7_add 32 = .ok (.iconst 0, 1) := by decide +kernel
theorem dX7_add_33 : decode cX7_add 33 = .ok (.istore_n 2, 1) := by decide +kernel
theorem dX7_add_34 : decode cX7_add 34 = .ok (.iload_n 2, 1) := by decide +kernel
theorem dX7_add_35 : decode cX7_add 35 = .ok (.bipush 6, 2) := by decide +kernel
theorem dX7_add_37 : decode cX7_add 37 = .ok (.if_icmp .ge 36, 3) := by decide +kernel
theorem dX7_add_40 : decode cX7_add 40 = .ok (.aload_n 0, 1) := by decide +kernel
theorem dX7_add_41 : decode cX7_add 41 = .ok (.getfield 23, 3) := by decide +kernel
theorem dX7_add_44 : decode cX7_add 44 = .ok (.bipush 6, 2) := by decide +kernel
theorem dX7_add_46 : decode cX7_add 46 = .ok (.bipush 80, 2) := by decide +kernel
theorem dX7_add_48 : decode cX7_add 48 = .ok (.iload_n 1, 1) := by decide +kernel
theorem dX7_add_49 : decode cX7_add 49 = .ok (.imul, 1) := by decide +kernel
theorem dX7_add_50 : decode cX7_add 50 = .ok (.aload_n 0, 1) := by decide +kernel
theorem dX7_add_51 : decode cX7_add 51 = .ok (.getfield 26, 3) := by decide +kernel
theorem dX7_add_54 : decode cX7_add 54 = .ok (.iload_n 1, 1) := by decide +kernel
theorem dX7_add_55 : decode cX7_add 55 = .ok (.iaload, 1) := by decide +kernel
theorem dX7_add_56 : decode cX7_add 56 = .ok (.iadd, 1) := by decide +kernel
theorem dX7_add_57 : decode cX7_add 57 = .ok (.imul, 1) := by decide +kernel
theorem dX7_add_58 : decode cX7_add 58 = .ok (.iload_n 2, 1) := by decide +kernel
theorem dX7_add_59 : decode cX7_add 59 = .ok (.iadd, 1) := by decide +kernel
theorem dX7_add_60 : decode cX7_add 60 = .ok (.aload_n 0, 1) := by decide +kernel
theorem dX7_add_61 : decode cX7_add 61 = .ok (.getfield 29, 3) := by decide +kernel
theorem dX7_add_64 : decode cX7_add 64 = .ok (.iload_n 2, 1) := by decide +kernel
theorem dX7_add_65 : decode cX7_add 65 = .ok (.iaload, 1) := by decide +kernel
theorem dX7_add_66 : decode cX7_add 66 = .ok (.iastore, 1) := by decide +kernel
theorem dX7_add_67 : decode cX7_add 67 = .ok (.iinc 2 1, 3) := by decide +kernel
theorem dX7_add_70 : decode cX7_add 70 = .ok (.goto (-36), 3) := by decide +kernel
theorem dX7_add_73 : decode cX7_add 73 = .ok (.aload_n 0, 1) := by decide +kernel
theorem dX7_add_74 : decode cX7_add 74 = .ok (.getfield 26, 3) := by decide +kernel
theorem dX7_add_77 : decode cX7_add 77 = .ok (.iload_n 1, 1) := by decide +kernel
theorem dX7_add_78 : decode cX7_add 78 = .ok (.dup2, 1) := by decide +kernel
theorem dX7_add_79 : decode cX7_add 79 = .ok (.iaload, 1) := by decide +kernel
theorem dX7_add_80 : decode cX7_add 80 = .ok (.iconst 1, 1) := by decide +kernel
theorem dX7_add_81 : decode cX7_add 81 = .ok (.iadd, 1) := by decide +kernel
theorem dX7_add_82 : decode cX7_add 82 = .ok (.iastore, 1) := by decide +kernel
theorem dX7_add_83 : decode cX7_add 83 = .ok (.return_, 1) := by decide +kernel
theorem dX7_agree_0 : decode cX7_agree 0 = .ok (.iconst 0, 1) := by decide +kernel
theorem dX7_agree_1 : decode cX7_agree 1 = .ok (.istore 5, 2) := by decide +kernel
theorem dX7_agree_3 : decode cX7_agree 3 = .ok (.iload 5, 2) := by decide +kernel
theorem dX7_agree_5 : decode cX7_agree 5 = .ok (.bipush 6, 2) := by decide +kernel
theorem dX7_agree_7 : decode cX7_agree 7 = .ok (.if_icmp .ge 58, 3) := by decide +kernel
theorem dX7_agree_10 : decode cX7_agree 10 = .ok (.aload_n 0, 1) := by decide +kernel
theorem dX7_agree_11 : decode cX7_agree 11 = .ok (.iload_n 1, 1) := by decide +kernel
theorem dX7_agree_12 : decode cX7_agree 12 = .ok (.iload_n 2, 1) := by decide +kernel
theorem dX7_agree_13 : decode cX7_agree 13 = .ok (.iload 5, 2) := by decide +kernel
theorem dX7_agree_15 : decode cX7_agree 15 = .ok (.invokevirtual 98, 3) := by decide +kernel
theorem dX7_agree_18 : decode cX7_agree 18 = .ok (.ldc 73, 2) := by decide +kernel
theorem dX7_agree_20 : decode cX7_agree 20 = .ok (.if_icmp .eq 39, 3) := by decide +kernel
theorem dX7_agree_23 : decode cX7_agree 23 = .ok (.aload_n 0, 1) := by decide +kernel
theorem dX7_agree_24 : decode cX7_agree 24 = .ok (.iload_n 3, 1) := by decide +kernel
theorem dX7_agree_25 : decode cX7_agree 25 = .ok (.iload 4, 2) := by decide +kernel
theorem dX7_agree_27 : decode cX7_agree 27 = .ok (.iload 5, 2) := by decide +kernel
theorem dX7_agree_29 : decode cX7_agree 29 = .ok (.invokevirtual 98, 3) := by decide +kernel
theorem dX7_agree_32 : decode cX7_agree 32 = .ok (.ldc 73, 2) := by decide +kernel
theorem dX7_agree_34 : decode cX7_agree 34 = .ok (.if_icmp .eq 25, 3) := by decide +kernel
theorem dX7_agree_37 : decode cX7_agree 37 = .ok (.aload_n 0, 1) := by decide +kernel
theorem dX7_agree_38 : decode cX7_agree 38 = .ok (.iload_n 1, 1) := by decide +kernel
theorem dX7_agree_39 : decode cX7_agree 39 = .ok (.iload_n 2, 1) := by decide +kernel
theorem dX7_agree_40 : decode cX7_agree 40 = .ok (.iload 5, 2) := by decide +kernel
theorem dX7_agree_42 : decode cX7_agree 42 = .ok (.invokevirtual 98, 3) := by decide +kernel
theorem dX7_agree_45 : decode cX7_agree 45 = .ok (.aload_n 0, 1) := by decide +kernel
theorem dX7_agree_46 : decode cX7_agree 46 = .ok (.iload_n 3, 1) := by decide +kernel
theorem dX7_agree_47 : decode cX7_agree 47 = .ok (.iload 4, 2) := by decide +kernel
theorem dX7_agree_49 : decode cX7_agree 49 = .ok (.iload 5, 2) := by decide +kernel
theorem dX7_agree_51 : decode cX7_agree 51 = .ok (.invokevirtual 98, 3) := by decide +kernel
theorem dX7_agree_54 : decode cX7_agree 54 = .ok (.if_icmp .eq 5, 3) := by decide +kernel
theorem dX7_agree_57 : decode cX7_agree 57 = .ok (.iconst 0, 1) := by decide +kernel
theorem dX7_agree_58 : decode cX7_agree 58 = .ok (.ireturn, 1) := by decide +kernel
theorem dX7_agree_59 : decode cX7_agree 59 = .ok (.iinc 5 1, 3) := by decide +kernel
theorem dX7_agree_62 : decode cX7_agree 62 = .ok (.goto (-59), 3) := by decide +kernel
theorem dX7_agree_65 : decode cX7_agree 65 = .ok (.iconst 1, 1) := by decide +kernel
theorem dX7_agree_66 : decode cX7_agree 66 = .ok (.ireturn, 1) := by decide +kernel
theorem dX7_share_0 : decode cX7_share 0 = .ok (.iconst 0, 1) := by decide +kernel
theorem dX7_share_1 : decode cX7_share 1 = .ok (.istore 5, 2) := by decide +kernel
theorem dX7_share_3 : decode cX7_share 3 = .ok (.iload 5, 2) := by decide +kernel
theorem dX7_share_5 : decode cX7_share 5 = .ok (.bipush 6, 2) := by decide +kernel
theorem dX7_share_7 : decode cX7_share 7 = .ok (.if_icmp .ge 38, 3) := by decide +kernel
theorem dX7_share_10 : decode cX7_share 10 = .ok (.aload_n 0, 1) := by decide +kernel
theorem dX7_share_11 : decode cX7_share 11 = .ok (.iload_n 1, 1) := by decide +kernel
theorem dX7_share_12 : decode cX7_share 12 = .ok (.iload_n 2, 1) := by decide +kernel
theorem dX7_share_13 : decode cX7_share 13 = .ok (.iload 5, 2) := by decide +kernel
theorem dX7_share_15 : decode cX7_share 15 = .ok (.invokevirtual 98, 3) := by decide +kernel
theorem dX7_share_18 : decode cX7_share 18 = .ok (.ldc 73, 2) := by decide +kernel
theorem dX7_share_20 : decode cX7_share 20 = .ok (.if_icmp .eq 19, 3) := by decide +kernel
theorem dX7_share_23 : decode cX7_share 23 = .ok (.aload_n 0, 1) := by decide +kernel
theorem dX7_share_24 : decode cX7_share 24 = .ok (.iload_n 3, 1) := by decide +kernel
theorem dX7_share_25 : decode cX7_share 25 = .ok (.iload 4, 2) := by decide +kernel
theorem dX7_share_27 : decode cX7_share 27 = .ok (.iload 5, 2) := by decide +kernel
theorem dX7_share_29 : decode cX7_share 29 = .ok (.invokevirtual 98, 3) := by decide +kernel
theorem dX7_share_32 : decode cX7_share 32 = .ok (.ldc 73, 2) := by decide +kernel
theorem dX7_share_34 : decode cX7_share 34 = .ok (.if_icmp .eq 5, 3) := by decide +kernel
theorem dX7_share_37 : decode cX7_share 37 = .ok (.iconst 1, 1) := by decide +kernel
theorem dX7_share_38 : decode cX7_share 38 = .ok (.ireturn, 1) := by decide +kernel
theorem dX7_share_39 : decode cX7_share 39 = .ok (.iinc 5 1, 3) := by decide +kernel
theorem dX7_share_42 : decode cX7_share 42 = .ok (.goto (-39), 3) := by decide +kernel
theorem dX7_share_45 : decode cX7_share 45 = .ok (.iconst 0, 1) := by decide +kernel
theorem dX7_share_46 : decode cX7_share 46 = .ok (.ireturn, 1) := by decide +kernel
theorem dX7_alike_0 : decode cX7_alike 0 = .ok (.iconst 0, 1) := by decide +kernel
theorem dX7_alike_1 : decode cX7_alike 1 = .ok (.istore 6, 2) := by decide +kernel
theorem dX7_alike_3 : decode cX7_alike 3 = .ok (.iload 6, 2) := by decide +kernel
theorem dX7_alike_5 : decode cX7_alike 5 = .ok (.bipush 6, 2) := by decide +kernel
theorem dX7_alike_7 : decode cX7_alike 7 = .ok (.if_icmp .ge 42, 3) := by decide +kernel
theorem dX7_alike_10 : decode cX7_alike 10 = .ok (.iload 5, 2) := by decide +kernel
theorem dX7_alike_12 : decode cX7_alike 12 = .ok (.iload 6, 2) := by decide +kernel
theorem dX7_alike_14 : decode cX7_alike 14 = .ok (.ishr, 1) := by decide +kernel
theorem dX7_alike_15 : decode cX7_alike 15 = .ok (.iconst 1, 1) := by decide +kernel
theorem dX7_alike_16 : decode cX7_alike 16 = .ok (.iand, 1) := by decide +kernel
theorem dX7_alike_17 : decode cX7_alike 17 = .ok (.iconst 1, 1) := by decide +kernel
theorem dX7_alike_18 : decode cX7_alike 18 = .ok (.if_icmp .ne 25, 3) := by decide +kernel
theorem dX7_alike_21 : decode cX7_alike 21 = .ok (.aload_n 0, 1) := by decide +kernel
theorem dX7_alike_22 : decode cX7_alike 22 = .ok (.iload_n 1, 1) := by decide +kernel
theorem dX7_alike_23 : decode cX7_alike 23 = .ok (.iload_n 2, 1) := by decide +kernel
theorem dX7_alike_24 : decode cX7_alike 24 = .ok (.iload 6, 2) := by decide +kernel
theorem dX7_alike_26 : decode cX7_alike 26 = .ok (.invokevirtual 98, 3) := by decide +kernel
theorem dX7_alike_29 : decode cX7_alike 29 = .ok (.aload_n 0, 1) := by decide +kernel
theorem dX7_alike_30 : decode cX7_alike 30 = .ok (.iload_n 3, 1) := by decide +kernel
theorem dX7_alike_31 : decode cX7_alike 31 = .ok (.iload 4, 2) := by decide +kernel
theorem dX7_alike_33 : decode cX7_alike 33 = .ok (.iload 6, 2) := by decide +kernel
theorem dX7_alike_35 : decode cX7_alike 35 = .ok (.invokevirtual 98, 3) := by decide +kernel
theorem dX7_alike_38 : decode cX7_alike 38 = .ok (.if_icmp .eq 5, 3) := by decide +kernel
theorem dX7_alike_41 : decode cX7_alike 41 = .ok (.iconst 0, 1) := by decide +kernel
theorem dX7_alike_42 : decode cX7_alike 42 = .ok (.ireturn, 1) := by decide +kernel
theorem dX7_alike_43 : decode cX7_alike 43 = .ok (.iinc 6 1, 3) := by decide +kernel
theorem dX7_alike_46 : decode cX7_alike 46 = .ok (.goto (-43), 3) := by decide +kernel
theorem dX7_alike_49 : decode cX7_alike 49 = .ok (.iconst 1, 1) := by decide +kernel
theorem dX7_alike_50 : decode cX7_alike 50 = .ok (.ireturn, 1) := by decide +kernel
theorem dX7_together_0 : decode cX7_together 0 = .ok (.aload_n 0, 1) := by decide +kernel
theorem dX7_together_1 : decode cX7_together 1 = .ok (.iload_n 1, 1) := by decide +kernel
theorem dX7_together_2 : decode cX7_together 2 = .ok (.iload_n 2, 1) := by decide +kernel
theorem dX7_together_3 : decode cX7_together 3 = .ok (.invokevirtual 101, 3) := by decide +kernel
theorem dX7_together_6 : decode cX7_together 6 = .ok (.iconst 0, 1) := by decide +kernel
theorem dX7_together_7 : decode cX7_together 7 = .ok (.istore 5, 2) := by decide +kernel
theorem dX7_together_9 : decode cX7_together 9 = .ok (.iload 5, 2) := by decide +kernel
theorem dX7_together_11 : decode cX7_together 11 = .ok (.bipush 6, 2) := by decide +kernel
theorem dX7_together_13 : decode cX7_together 13 = .ok (.if_icmp .ge 47, 3) := by decide +kernel
theorem dX7_together_16 : decode cX7_together 16 = .ok (.aload_n 0, 1) := by decide +kernel
theorem dX7_together_17 : decode cX7_together 17 = .ok (.getfield 29, 3) := by decide +kernel
theorem dX7_together_20 : decode cX7_together 20 = .ok (.iload 5, 2) := by decide +kernel
theorem dX7_together_22 : decode cX7_together 22 = .ok (.aload_n 0, 1) := by decide +kernel
theorem dX7_together_23 : decode cX7_together 23 = .ok (.getfield 29, 3) := by decide +kernel
theorem dX7_together_26 : decode cX7_together 26 = .ok (.iload 5, 2) := by decide +kernel
theorem dX7_together_28 : decode cX7_together 28 = .ok (.iaload, 1) := by decide +kernel
theorem dX7_together_29 : decode cX7_together 29 = .ok (.ldc 73, 2) := by decide +kernel
theorem dX7_together_31 : decode cX7_together 31 = .ok (.if_icmp .ne 15, 3) := by decide +kernel
theorem dX7_together_34 : decode cX7_together 34 = .ok (.aload_n 0, 1) := by decide +kernel
theorem dX7_together_35 : decode cX7_together 35 = .ok (.iload_n 3, 1) := by decide +kernel
theorem dX7_together_36 : decode cX7_together 36 = .ok (.iload 4, 2) := by decide +kernel
theorem dX7_together_38 : decode cX7_together 38 = .ok (.iload 5, 2) := by decide +kernel
theorem dX7_together_40 : decode cX7_together 40 = .ok (.invokevirtual 98, 3) := by decide +kernel
theorem dX7_together_43 : decode cX7_together 43 = .ok (.goto 10, 3) := by decide +kernel
theorem dX7_together_46 : decode cX7_together 46 = .ok (.aload_n 0, 1) := by decide +kernel
theorem dX7_together_47 : decode cX7_together 47 = .ok (.getfield 29, 3) := by decide +kernel
theorem dX7_together_50 : decode cX7_together 50 = .ok (.iload 5, 2) := by decide +kernel
theorem dX7_together_52 : decode cX7_together 52 = .ok (.iaload, 1) := by decide +kernel
theorem dX7_together_53 : decode cX7_together 53 = .ok (.iastore, 1) := by decide +kernel
theorem dX7_together_54 : decode cX7_together 54 = .ok (.iinc 5 1, 3) := by decide +kernel
theorem dX7_together_57 : decode cX7_together 57 = .ok (.goto (-48), 3) := by decide +kernel
theorem dX7_together_60 : decode cX7_together 60 = .ok (.return_, 1) := by decide +kernel
theorem dX7_fits_0 : decode cX7_fits 0 = .ok (.iload_n 1, 1) := by decide +kernel
theorem dX7_fits_1 : decode cX7_fits 1 = .ok (.ifCond .lt 14, 3) := by decide +kernel
theorem dX7_fits_4 : decode cX7_fits 4 = .ok (.iload_n 1, 1) := by decide +kernel
theorem dX7_fits_5 : decode cX7_fits 5 = .ok (.iload_n 2, 1) := by decide +kernel
theorem dX7_fits_6 : decode cX7_fits 6 = .ok (.if_icmp .ne 7, 3) := by decide +kernel
theorem dX7_fits_9 : decode cX7_fits 9 = .ok (.iconst 1, 1) := by decide +kernel
theorem dX7_fits_10 : decode cX7_fits 10 = .ok (.goto 4, 3) := by decide +kernel
theorem dX7_fits_13 : decode cX7_fits 13 = .ok (.iconst 0, 1) := by decide +kernel
theorem dX7_fits_14 : decode cX7_fits 14 = .ok (.ireturn, 1) := by decide +kernel
theorem dX7_fits_15 : decode cX7_fits 15 = .ok (.iconst (-1), 1) := by decide +kernel
theorem dX7_fits_16 : decode cX7_fits 16 = .ok (.iload_n 1, 1) := by decide +kernel
theorem dX7_fits_17 : decode cX7_fits 17 = .ok (.isub, 1) := by decide +kernel
theorem dX7_fits_18 : decode cX7_fits 18 = .ok (.istore_n 3, 1) := by decide +kernel
theorem dX7_fits_19 : decode cX7_fits 19 = .ok (.aload_n 0, 1) := by decide +kernel
theorem dX7_fits_20 : decode cX7_fits 20 = .ok (.getfield 29, 3) := by decide +kernel
theorem dX7_fits_23 : decode cX7_fits 23 = .ok (.iload_n 3, 1) := by decide +kernel
theorem dX7_fits_24 : decode cX7_fits 24 = .ok (.iaload, 1) := by decide +kernel
theorem dX7_fits_25 : decode cX7_fits 25 = .ok (.ldc 73, 2) := by decide +kernel
theorem dX7_fits_27 : decode cX7_fits 27 = .ok (.if_icmp .eq 13, 3) := by decide +kernel
theorem dX7_fits_30 : decode cX7_fits 30 = .ok (.aload_n 0, 1) := by decide +kernel
theorem dX7_fits_31 : decode cX7_fits 31 = .ok (.getfield 29, 3) := by decide +kernel
theorem dX7_fits_34 : decode cX7_fits 34 = .ok (.iload_n 3, 1) := by decide +kernel
theorem dX7_fits_35 : decode cX7_fits 35 = .ok (.iaload, 1) := by decide +kernel
theorem dX7_fits_36 : decode cX7_fits 36 = .ok (.iload_n 2, 1) := by decide +kernel
theorem dX7_fits_37 : decode cX7_fits 37 = .ok (.if_icmp .ne 7, 3) := by decide +kernel
theorem dX7_fits_40 : decode cX7_fits 40 = .ok (.iconst 1, 1) := by decide +kernel
theorem dX7_fits_41 : decode cX7_fits 41 = .ok (.goto 4, 3) := by decide +kernel
theorem dX7_fits_44 : decode cX7_fits 44 = .ok (.iconst 0, 1) := by decide +kernel
theorem dX7_fits_45 : decode cX7_fits 45 = .ok (.istore 4, 2) := by decide +kernel
theorem dX7_fits_47 : decode cX7_fits 47 = .ok (.aload_n 0, 1) := by decide +kernel
theorem dX7_fits_48 : decode cX7_fits 48 = .ok (.getfield 29, 3) := by decide +kernel
theorem dX7_fits_51 : decode cX7_fits 51 = .ok (.iload_n 3, 1) := by decide +kernel
theorem dX7_fits_52 : decode cX7_fits 52 = .ok (.iload_n 2, 1) := by decide +kernel
theorem dX7_fits_53 : decode cX7_fits 53 = .ok (.iastore, 1) := by decide +kernel
theorem dX7_fits_54 : decode cX7_fits 54 = .ok (.iload 4, 2) := by decide +kernel
theorem dX7_fits_56 : decode cX7_fits 56 = .ok (.ireturn, 1) := by decide +kernel
theorem dX7_reckonPattern_0 : decode cX7_reckonPattern 0 = .ok (.iconst 0, 1) := by decide +kernel
theorem dX7_reckonPattern_1 : decode cX7_reckonPattern 1 = .ok (.istore 4, 2) := by decide +kernel
theorem dX7_reckonPattern_3 : decode cX7_reckonPattern 3 = .ok (.iload 4, 2) := by decide +kernel
theorem dX7_reckonPattern_5 : decode cX7_reckonPattern 5 = .ok (.iconst 4, 1) := by decide +kernel
theorem dX7_reckonPattern_6 : decode cX7_reckonPattern 6 = .ok (.aload_n 0, 1) := by decide +kernel
theorem dX7_reckonPattern_7 : decode cX7_reckonPattern 7 = .ok (.getfield 49, 3) := by decide +kernel
theorem dX7_reckonPattern_10 : decode cX7_reckonPattern 10 = .ok (.imul, 1) := by decide +kernel
theorem dX7_reckonPattern_11 : decode cX7_reckonPattern 11 = .ok (.if_icmp .ge 86, 3) := by decide +kernel
theorem dX7_reckonPattern_14 : decode cX7_reckonPattern 14 = .ok (.aload_n 0, 1) := by decide +kernel
theorem dX7_reckonPattern_15 : decode cX7_reckonPattern 15 = .ok (.invokevirtual 105, 3) := by decide +kernel
theorem dX7_reckonPattern_18 : decode cX7_reckonPattern 18 = .ok (.aload_n 0, 1) := by decide +kernel
theorem dX7_reckonPattern_19 : decode cX7_reckonPattern 19 = .ok (.getfield 7, 3) := by decide +kernel
theorem dX7_reckonPattern_22 : decode cX7_reckonPattern 22 = .ok (.iload 4, 2) := by decide +kernel
theorem dX7_reckonPattern_24 : decode cX7_reckonPattern 24 = .ok (.iaload, 1) := by decide +kernel
theorem dX7_reckonPattern_25 : decode cX7_reckonPattern 25 = .ok (.iload_n 2, 1) := by decide +kernel
theorem dX7_reckonPattern_26 : decode cX7_reckonPattern 26 = .ok (.if_icmp .ne 7, 3) := by decide +kernel
theorem dX7_reckonPattern_29 : decode cX7_reckonPattern 29 = .ok (.iconst 1, 1) := by decide +kernel
theorem dX7_reckonPattern_30 : decode cX7_reckonPattern 30 = .ok (.goto 4, 3) := by decide +kernel
theorem dX7_reckonPattern_33 : decode cX7_reckonPattern 33 = .ok (.iconst 0, 1) := by decide +kernel
theorem dX7_reckonPattern_34 : decode cX7_reckonPattern 34 = .ok (.istore 5, 2) := by decide +kernel
theorem dX7_reckonPattern_36 : decode cX7_reckonPattern 36 = .ok (.iconst 1, 1) := by decide +kernel
theorem dX7_reckonPattern_37 : decode cX7_reckonPattern 37 = .ok (.istore 6, 2) := by decide +kernel
theorem dX7_reckonPattern_39 : decode cX7_reckonPattern 39 = .ok (.iload 6, 2) := by decide +kernel
theorem dX7_reckonPattern_41 : decode cX7_reckonPattern 41 = .ok (.iconst 3, 1) := by decide +kernel
theorem dX7_reckonPattern_42 : decode cX7_reckonPattern 42 = .ok (.if_icmp .gt 39, 3) := by decide +kernel
theorem dX7_reckonPattern_45 : decode cX7_reckonPattern 45 = .ok (.iload 5, 2) := by decide +kernel
theorem dX7_reckonPattern_47 : decode cX7_reckonPattern 47 = .ok (.ifCond .eq 34, 3) := by decide +kernel
theorem dX7_reckonPattern_50 : decode cX7_reckonPattern 50 = .ok (.aload_n 0, 1) := by decide +kernel
theorem dX7_reckonPattern_51 : decode cX7_reckonPattern 51 = .ok (.aload_n 0, 1) := by decide +kernel
theorem dX7_reckonPattern_52 : decode cX7_reckonPattern 52 = .ok (.getfield 19, 3) := by decide +kernel
theorem dX7_reckonPattern_55 : decode cX7_reckonPattern 55 = .ok (.iload_n 3, 1) := by decide +kernel
theorem dX7_reckonPattern_56 : decode cX7_reckonPattern 56 = .ok (.iload 6, 2) := by decide +kernel
theorem dX7_reckonPattern_58 : decode cX7_reckonPattern 58 = .ok (.iadd, 1) := by decide +kernel
theorem dX7_reckonPattern_59 : decode cX7_reckonPattern 59 = .ok (.iaload, 1) := by decide +kernel
theorem dX7_reckonPattern_60 : decode cX7_reckonPattern 60 = .ok (.aload_n 0, 1) := by decide +kernel
theorem dX7_reckonPattern_61 : decode cX7_reckonPattern 61 = .ok (.getfield 7, 3) := by decide +kernel
theorem dX7_reckonPattern_64 : decode cX7_reckonPattern 64 = .ok (.iload 4, 2) := by decide +kernel
theorem dX7_reckonPattern_66 : decode cX7_reckonPattern 66 = .ok (.iload 6, 2) := by decide +kernel
theorem dX7_reckonPattern_68 : decode cX7_reckonPattern 68 = .ok (.iadd, 1) := by decide +kernel
theorem dX7_reckonPattern_69 : decode cX7_reckonPattern 69 = .ok (.iaload, 1) := by decide +kernel
theorem dX7_reckonPattern_70 : decode cX7_reckonPattern 70 = .ok (.invokevirtual 108, 3) := by decide +kernel
theorem dX7_reckonPattern_73 : decode cX7_reckonPattern 73 = .ok (.istore 5, 2) := by decide +kernel
theorem dX7_reckonPattern_75 : decode cX7_reckonPattern 75 = .ok (.iinc 6 1, 3) := by decide +kernel
theorem dX7_reckonPattern_78 : decode cX7_reckonPattern 78 = .ok (.goto (-39), 3) := by decide +kernel
theorem dX7_reckonPattern_81 : decode cX7_reckonPattern 81 = .ok (.iload 5, 2) := by decide +kernel
theorem dX7_reckonPattern_83 : decode cX7_reckonPattern 83 = .ok (.ifCond .eq 8, 3) := by decide +kernel
theorem dX7_reckonPattern_86 : decode cX7_reckonPattern 86 = .ok (.aload_n 0, 1) := by decide +kernel
theorem dX7_reckonPattern_87 : decode cX7_reckonPattern 87 = .ok (.iload_n 1, 1) := by decide +kernel
theorem dX7_reckonPattern_88 : decode cX7_reckonPattern 88 = .ok (.invokevirtual 112, 3) := by decide +kernel
theorem dX7_reckonPattern_91 : decode cX7_reckonPattern 91 = .ok (.iinc 4 4, 3) := by decide +kernel
theorem dX7_reckonPattern_94 : decode cX7_reckonPattern 94 = .ok (.goto (-91), 3) := by decide +kernel
theorem dX7_reckonPattern_97 : decode cX7_reckonPattern 97 = .ok (.return_, 1) := by decide +kernel
theorem dX7_reckonPairs_0 : decode cX7_reckonPairs 0 = .ok (.iconst 0, 1) := by decide +kernel
theorem dX7_reckonPairs_1 : decode cX7_reckonPairs 1 = .ok (.istore 6, 2) := by decide +kernel
theorem dX7_reckonPairs_3 : decode cX7_reckonPairs 3 = .ok (.iload 6, 2) := by decide +kernel
theorem dX7_reckonPairs_5 : decode cX7_reckonPairs 5 = .ok (.aload_n 0, 1) := by decide +kernel
theorem dX7_reckonPairs_6 : decode cX7_reckonPairs 6 = .ok (.getfield 26, 3) := by decide +kernel
theorem dX7_reckonPairs_9 : decode cX7_reckonPairs 9 = .ok (.iload_n 2, 1) := by decide +kernel
theorem dX7_reckonPairs_10 : decode cX7_reckonPairs 10 = .ok (.iaload, 1) := by decide +kernel
theorem dX7_reckonPairs_11 : decode cX7_reckonPairs 11 = .ok (.if_icmp .ge 100, 3) := by decide +kernel
theorem dX7_reckonPairs_14 : decode cX7_reckonPairs 14 = .ok (.iconst 0, 1) := by decide +kernel
theorem dX7_reckonPairs_15 : decode cX7_reckonPairs 15 = .ok (.istore 7, 2) := by decide +kernel
theorem dX7_reckonPairs_17 : decode cX7_reckonPairs 17 = .ok (.iconst 0, 1) := by decide +kernel
theorem dX7_reckonPairs_18 : decode cX7_reckonPairs 18 = .ok (.istore 8, 2) := by decide +kernel
theorem dX7_reckonPairs_20 : decode cX7_reckonPairs 20 = .ok (.iload 8, 2) := by decide +kernel
theorem dX7_reckonPairs_22 : decode cX7_reckonPairs 22 = .ok (.aload_n 0, 1) := by decide +kernel
theorem dX7_reckonPairs_23 : decode cX7_reckonPairs 23 = .ok (.getfield 26, 3) := by decide +kernel
theorem dX7_reckonPairs_26 : decode cX7_reckonPairs 26 = .ok (.iload_n 3, 1) := by decide +kernel
theorem dX7_reckonPairs_27 : decode cX7_reckonPairs 27 = .ok (.iaload, 1) := by decide +kernel
theorem dX7_reckonPairs_28 : decode cX7_reckonPairs 28 = .ok (.if_icmp .ge 55, 3) := by decide +kernel
theorem dX7_reckonPairs_31 : decode cX7_reckonPairs 31 = .ok (.aload_n 0, 1) := by decide +kernel
theorem dX7_reckonPairs_32 : decode cX7_reckonPairs 32 = .ok (.iload_n 2, 1) := by decide +kernel
theorem dX7_reckonPairs_33 : decode cX7_reckonPairs 33 = .ok (.iload 6, 2) := by decide +kernel
theorem dX7_reckonPairs_35 : decode cX7_reckonPairs 35 = .ok (.iload_n 3, 1) := by decide +kernel
theorem dX7_reckonPairs_36 : decode cX7_reckonPairs 36 = .ok (.iload 8, 2) := by decide +kernel
theorem dX7_reckonPairs_38 : decode cX7_reckonPairs 38 = .ok (.invokevirtual 116, 3) := by decide +kernel
theorem dX7_reckonPairs_41 : decode cX7_reckonPairs 41 = .ok (.ifCond .eq 36, 3) := by decide +kernel
theorem dX7_reckonPairs_44 : decode cX7_reckonPairs 44 = .ok (.aload_n 0, 1) := by decide +kernel
theorem dX7_reckonPairs_45 : decode cX7_reckonPairs 45 = .ok (.iload_n 2, 1) := by decide +kernel
theorem dX7_reckonPairs_46 : decode cX7_reckonPairs 46 = .ok (.iload 6, 2) := by decide +kernel
theorem dX7_reckonPairs_48 : decode cX7_reckonPairs 48 = .ok (.iload_n 3, 1) := by decide +kernel
theorem dX7_reckonPairs_49 : decode cX7_reckonPairs 49 = .ok (.iload 8, 2) := by decide +kernel
theorem dX7_reckonPairs_51 : decode cX7_reckonPairs 51 = .ok (.invokevirtual 120, 3) := by decide +kernel
theorem dX7_reckonPairs_54 : decode cX7_reckonPairs 54 = .ok (.iload 5, 2) := by decide +kernel
theorem dX7_reckonPairs_56 : decode cX7_reckonPairs 56 = .ok (.iconst (-1), 1) := by decide +kernel
theorem dX7_reckonPairs_57 : decode cX7_reckonPairs 57 = .ok (.if_icmp .eq 12, 3) := by decide +kernel
theorem dX7_reckonPairs_60 : decode cX7_reckonPairs 60 = .ok (.aload_n 0, 1) := by decide +kernel
theorem dX7_reckonPairs_61 : decode cX7_reckonPairs 61 = .ok (.iload 5, 2) := by decide +kernel
theorem dX7_reckonPairs_63 : decode cX7_reckonPairs 63 = .ok (.invokevirtual 124, 3) := by decide +kernel
theorem dX7_reckonPairs_66 : decode cX7_reckonPairs 66 = .ok (.ifCond .eq 11, 3) := by decide +kernel
theorem dX7_reckonPairs_69 : decode cX7_reckonPairs 69 = .ok (.aload_n 0, 1) := by decide +kernel
theorem dX7_reckonPairs_70 : decode cX7_reckonPairs 70 = .ok (.iload_n 1, 1) := by decide +kernel
theorem dX7_reckonPairs_71 : decode cX7_reckonPairs 71 = .ok (.invokevirtual 112, 3) := by decide +kernel
theorem dX7_reckonPairs_74 : decode cX7_reckonPairs 74 = .ok (.iconst 1, 1) := by decide +kernel
theorem dX7_reckonPairs_75 : decode cX7_reckonPairs 75 = .ok (.istore 7, 2) := by decide +kernel
theorem dX7_reckonPairs_77 : decode cX7_reckonPairs 77 = .ok (.iinc 8 1, 3) := by decide +kernel
theorem dX7_reckonPairs_80 : decode cX7_reckonPairs 80 = .ok (.goto (-60), 3) := by decide +kernel
theorem dX7_reckonPairs_83 : decode cX7_reckonPairs 83 = .ok (.iload 4, 2) := by decide +kernel
theorem dX7_reckonPairs_85 : decode cX7_reckonPairs 85 = .ok (.ifCond .eq 20, 3) := by decide +kernel
theorem dX7_reckonPairs_88 : decode cX7_reckonPairs 88 = .ok (.iload 7, 2) := by decide +kernel
theorem dX7_reckonPairs_90 : decode cX7_reckonPairs 90 = .ok (.ifCond .ne 15, 3) := by decide +kernel
theorem dX7_reckonPairs_93 : decode cX7_reckonPairs 93 = .ok (.aload_n 0, 1) := by decide +kernel
theorem dX7_reckonPairs_94 : decode cX7_reckonPairs 94 = .ok (.iload_n 2, 1) := by decide +kernel
theorem dX7_reckonPairs_95 : decode cX7_reckonPairs 95 = .ok (.iload 6, 2) := by decide +kernel
theorem dX7_reckonPairs_97 : decode cX7_reckonPairs 97 = .ok (.invokevirtual 101, 3) := by decide +kernel
theorem dX7_reckonPairs_100 : decode cX7_reckonPairs 100 = .ok (.aload_n 0, 1) := by decide +kernel
theorem dX7_reckonPairs_101 : decode cX7_reckonPairs 101 = .ok (.iload_n 1, 1) := by decide +kernel
theorem dX7_reckonPairs_102 : decode cX7_reckonPairs 102 = .ok (.invokevirtual 112, 3) := by decide +kernel
theorem dX7_reckonPairs_105 : decode cX7_reckonPairs 105 = .ok (.iinc 6 1, 3) := by decide +kernel
theorem dX7_reckonPairs_108 : decode cX7_reckonPairs 108 = .ok (.goto (-105), 3) := by decide +kernel
theorem dX7_reckonPairs_111 : decode cX7_reckonPairs 111 = .ok (.return_, 1) := by decide +kernel
theorem dX7_reckonMinus_0 : decode cX7_reckonMinus 0 = .ok (.iconst 0, 1) := by decide +kernel
theorem dX7_reckonMinus_1 : decode cX7_reckonMinus 1 = .ok (.istore 4, 2) := by decide +kernel
theorem dX7_reckonMinus_3 : decode cX7_reckonMinus 3 = .ok (.iload 4, 2) := by decide +kernel
theorem dX7_reckonMinus_5 : decode cX7_reckonMinus 5 = .ok (.aload_n 0, 1) := by decide +kernel
theorem dX7_reckonMinus_6 : decode cX7_reckonMinus 6 = .ok (.getfield 26, 3) := by decide +kernel
theorem dX7_reckonMinus_9 : decode cX7_reckonMinus 9 = .ok (.iload_n 2, 1) := by decide +kernel
theorem dX7_reckonMinus_10 : decode cX7_reckonMinus 10 = .ok (.iaload, 1) := by decide +kernel
theorem dX7_reckonMinus_11 : decode cX7_reckonMinus 11 = .ok (.if_icmp .ge 87, 3) := by decide +kernel
theorem dX7_reckonMinus_14 : decode cX7_reckonMinus 14 = .ok (.iconst 1, 1) := by decide +kernel
theorem dX7_reckonMinus_15 : decode cX7_reckonMinus 15 = .ok (.istore 5, 2) := by decide +kernel
theorem dX7_reckonMinus_17 : decode cX7_reckonMinus 17 = .ok (.iconst 0, 1) := by decide +kernel
theorem dX7_reckonMinus_18 : decode cX7_reckonMinus 18 = .ok (.istore 6, 2) := by decide +kernel
theorem dX7_reckonMinus_20 : decode cX7_reckonMinus 20 = .ok (.iload 6, 2) := by decide +kernel
theorem dX7_reckonMinus_22 : decode cX7_reckonMinus 22 = .ok (.aload_n 0, 1) := by decide +kernel
theorem dX7_reckonMinus_23 : decode cX7_reckonMinus 23 = .ok (.getfield 26, 3) := by decide +kernel
theorem dX7_reckonMinus_26 : decode cX7_reckonMinus 26 = .ok (.iload_n 3, 1) := by decide +kernel
theorem dX7_reckonMinus_27 : decode cX7_reckonMinus 27 = .ok (.iaload, 1) := by decide +kernel
theorem dX7_reckonMinus_28 : decode cX7_reckonMinus 28 = .ok (.if_icmp .ge 47, 3) := by decide +kernel
theorem dX7_reckonMinus_31 : decode cX7_reckonMinus 31 = .ok (.iload 5, 2) := by decide +kernel
theorem dX7_reckonMinus_33 : decode cX7_reckonMinus 33 = .ok (.ifCond .eq 33, 3) := by decide +kernel
theorem dX7_reckonMinus_36 : decode cX7_reckonMinus 36 = .ok (.aload_n 0, 1) := by decide +kernel
theorem dX7_reckonMinus_37 : decode cX7_reckonMinus 37 = .ok (.iload_n 2, 1) := by decide +kernel
theorem dX7_reckonMinus_38 : decode cX7_reckonMinus 38 = .ok (.iload 4, 2) := by decide +kernel
theorem dX7_reckonMinus_40 : decode cX7_reckonMinus 40 = .ok (.iload_n 3, 1) := by decide +kernel
theorem dX7_reckonMinus_41 : decode cX7_reckonMinus 41 = .ok (.iload 6, 2) := by decide +kernel
theorem dX7_reckonMinus_43 : decode cX7_reckonMinus 43 = .ok (.invokevirtual 116, 3) := by decide +kernel
theorem dX7_reckonMinus_46 : decode cX7_reckonMinus 46 = .ok (.ifCond .eq 16, 3) := by decide +kernel
theorem dX7_reckonMinus_49 : decode cX7_reckonMinus 49 = .ok (.aload_n 0, 1) := by decide +kernel
theorem dX7_reckonMinus_50 : decode cX7_reckonMinus 50 = .ok (.iload_n 2, 1) := by decide +kernel
theorem dX7_reckonMinus_51 : decode cX7_reckonMinus 51 = .ok (.iload 4, 2) := by decide +kernel
theorem dX7_reckonMinus_53 : decode cX7_reckonMinus 53 = .ok (.iload_n 3, 1) := by decide +kernel
theorem dX7_reckonMinus_54 : decode cX7_reckonMinus 54 = .ok (.iload 6, 2) := by decide +kernel
theorem dX7_reckonMinus_56 : decode cX7_reckonMinus 56 = .ok (.invokevirtual 127, 3) := by decide +kernel
theorem dX7_reckonMinus_59 : decode cX7_reckonMinus 59 = .ok (.ifCond .ne 7, 3) := by decide +kernel
theorem dX7_reckonMinus_62 : decode cX7_reckonMinus 62 = .ok (.iconst 1, 1) := by decide +kernel
theorem dX7_reckonMinus_63 : decode cX7_reckonMinus 63 = .ok (.goto 4, 3) := by decide +kernel
theorem dX7_reckonMinus_66 : decode cX7_reckonMinus 66 = .ok (.iconst 0, 1) := by decide +kernel
theorem dX7_reckonMinus_67 : decode cX7_reckonMinus 67 = .ok (.istore 5, 2) := by decide +kernel
theorem dX7_reckonMinus_69 : decode cX7_reckonMinus 69 = .ok (.iinc 6 1, 3) := by decide +kernel
theorem dX7_reckonMinus_72 : decode cX7_reckonMinus 72 = .ok (.goto (-52), 3) := by decide +kernel
theorem dX7_reckonMinus_75 : decode cX7_reckonMinus 75 = .ok (.iload 5, 2) := by decide +kernel
theorem dX7_reckonMinus_77 : decode cX7_reckonMinus 77 = .ok (.ifCond .eq 15, 3) := by decide +kernel
theorem dX7_reckonMinus_80 : decode cX7_reckonMinus 80 = .ok (.aload_n 0, 1) := by decide +kernel
theorem dX7_reckonMinus_81 : decode cX7_reckonMinus 81 = .ok (.iload_n 2, 1) := by decide +kernel
theorem dX7_reckonMinus_82 : decode cX7_reckonMinus 82 = .ok (.iload 4, 2) := by decide +kernel
theorem dX7_reckonMinus_84 : decode cX7_reckonMinus 84 = .ok (.invokevirtual 101, 3) := by decide +kernel
theorem dX7_reckonMinus_87 : decode cX7_reckonMinus 87 = .ok (.aload_n 0, 1) := by decide +kernel
theorem dX7_reckonMinus_88 : decode cX7_reckonMinus 88 = .ok (.iload_n 1, 1) := by decide +kernel
theorem dX7_reckonMinus_89 : decode cX7_reckonMinus 89 = .ok (.invokevirtual 112, 3) := by decide +kernel
theorem dX7_reckonMinus_92 : decode cX7_reckonMinus 92 = .ok (.iinc 4 1, 3) := by decide +kernel
theorem dX7_reckonMinus_95 : decode cX7_reckonMinus 95 = .ok (.goto (-92), 3) := by decide +kernel
theorem dX7_reckonMinus_98 : decode cX7_reckonMinus 98 = .ok (.return_, 1) := by decide +kernel
theorem dX7_reckonEach_0 : decode cX7_reckonEach 0 = .ok (.iconst 0, 1) := by decide +kernel
theorem dX7_reckonEach_1 : decode cX7_reckonEach 1 = .ok (.istore 6, 2) := by decide +kernel
theorem dX7_reckonEach_3 : decode cX7_reckonEach 3 = .ok (.iload 6, 2) := by decide +kernel
theorem dX7_reckonEach_5 : decode cX7_reckonEach 5 = .ok (.aload_n 0, 1) := by decide +kernel
theorem dX7_reckonEach_6 : decode cX7_reckonEach 6 = .ok (.getfield 26, 3) := by decide +kernel
theorem dX7_reckonEach_9 : decode cX7_reckonEach 9 = .ok (.iload_n 2, 1) := by decide +kernel
theorem dX7_reckonEach_10 : decode cX7_reckonEach 10 = .ok (.iaload, 1) := by decide +kernel
theorem dX7_reckonEach_11 : decode cX7_reckonEach 11 = .ok (.if_icmp .ge 230, 3) := by decide +kernel
theorem dX7_reckonEach_14 : decode cX7_reckonEach 14 = .ok (.aload_n 0, 1) := by decide +kernel
theorem dX7_reckonEach_15 : decode cX7_reckonEach 15 = .ok (.iload_n 2, 1) := by decide +kernel
theorem dX7_reckonEach_16 : decode cX7_reckonEach 16 = .ok (.iload 6, 2) := by decide +kernel
theorem dX7_reckonEach_18 : decode cX7_reckonEach 18 = .ok (.invokevirtual 101, 3) := by decide +kernel
theorem dX7_reckonEach_21 : decode cX7_reckonEach 21 = .ok (.iconst 1, 1) := by decide +kernel
theorem dX7_reckonEach_22 : decode cX7_reckonEach 22 = .ok (.istore 7, 2) := by decide +kernel
theorem dX7_reckonEach_24 : decode cX7_reckonEach 24 = .ok (.iload_n 3, 1) := by decide +kernel
theorem dX7_reckonEach_25 : decode cX7_reckonEach 25 = .ok (.iconst 5, 1) := by decide +kernel
theorem dX7_reckonEach_26 : decode cX7_reckonEach 26 = .ok (.if_icmp .ne 14, 3) := by decide +kernel
theorem dX7_reckonEach_29 : decode cX7_reckonEach 29 = .ok (.aload_n 0, 1) := by decide +kernel
theorem dX7_reckonEach_30 : decode cX7_reckonEach 30 = .ok (.iload 4, 2) := by decide +kernel
theorem dX7_reckonEach_32 : decode cX7_reckonEach 32 = .ok (.invokevirtual 124, 3) := by decide +kernel
theorem dX7_reckonEach_35 : decode cX7_reckonEach 35 = .ok (.istore 7, 2) := by decide +kernel
theorem dX7_reckonEach_37 : decode cX7_reckonEach 37 = .ok (.goto 188, 3) := by decide +kernel
theorem dX7_reckonEach_40 : decode cX7_reckonEach 40 = .ok (.iload_n 3, 1) := by decide +kernel
theorem dX7_reckonEach_41 : decode cX7_reckonEach 41 = .ok (.bipush 6, 2) := by decide +kernel
theorem dX7_reckonEach_43 : decode cX7_reckonEach 43 = .ok (.if_icmp .ne 45, 3) := by decide +kernel
theorem dX7_reckonEach_46 : decode cX7_reckonEach 46 = .ok (.aload_n 0, 1) := by decide +kernel
theorem dX7_reckonEach_47 : decode cX7_reckonEach 47 = .ok (.iload 5, 2) := by decide +kernel
theorem dX7_reckonEach_49 : decode cX7_reckonEach 49 = .ok (.invokevirtual 81, 3) := by decide +kernel
theorem dX7_reckonEach_52 : decode cX7_reckonEach 52 = .ok (.istore 8, 2) := by decide +kernel
theorem dX7_reckonEach_54 : decode cX7_reckonEach 54 = .ok (.aload_n 0, 1) := by decide +kernel
theorem dX7_reckonEach_55 : decode cX7_reckonEach 55 = .ok (.getfield 29, 3) := by decide +kernel
theorem dX7_reckonEach_58 : decode cX7_reckonEach 58 = .ok (.iload 4, 2) := by decide +kernel
theorem dX7_reckonEach_60 : decode cX7_reckonEach 60 = .ok (.aload_n 0, 1) := by decide +kernel
theorem dX7_reckonEach_61 : decode cX7_reckonEach 61 = .ok (.getfield 29, 3) := by decide +kernel
theorem dX7_reckonEach_64 : decode cX7_reckonEach 64 = .ok (.iload 4, 2) := by decide +kernel
theorem dX7_reckonEach_66 : decode cX7_reckonEach 66 = .ok (.iaload, 1) := by decide +kernel
theorem dX7_reckonEach_67 : decode cX7_reckonEach 67 = .ok (.ldc 73, 2) := by decide +kernel
theorem dX7_reckonEach_69 : decode cX7_reckonEach 69 = .ok (.if_icmp .ne 8, 3) := by decide +kernel
theorem dX7_reckonEach_72 : decode cX7_reckonEach 72 = .ok (.iload 8, 2) := by decide +kernel
theorem dX7_reckonEach_74 : decode cX7_reckonEach 74 = .ok (.goto 10, 3) := by decide +kernel
theorem dX7_reckonEach_77 : decode cX7_reckonEach 77 = .ok (.aload_n 0, 1) := by decide +kernel
theorem dX7_reckonEach_78 : decode cX7_reckonEach 78 = .ok (.getfield 29, 3) := by decide +kernel
theorem dX7_reckonEach_81 : decode cX7_reckonEach 81 = .ok (.iload 4, 2) := by decide +kernel
theorem dX7_reckonEach_83 : decode cX7_reckonEach 83 = .ok (.iaload, 1) := by decide +kernel
theorem dX7_reckonEach_84 : decode cX7_reckonEach 84 = .ok (.iastore, 1) := by decide +kernel
theorem dX7_reckonEach_85 : decode cX7_reckonEach 85 = .ok (.goto 140, 3) := by decide +kernel
theorem dX7_reckonEach_88 : decode cX7_reckonEach 88 = .ok (.iload_n 3, 1) := by decide +kernel
theorem dX7_reckonEach_89 : decode cX7_reckonEach 89 = .ok (.bipush 7, 2) := by decide +kernel
theorem dX7_reckonEach_91 : decode cX7_reckonEach 91 = .ok (.if_icmp .ne 52, 3) := by decide +kernel
theorem dX7_reckonEach_94 : decode cX7_reckonEach 94 = .ok (.iconst 0, 1) := by decide +kernel
theorem dX7_reckonEach_95 : decode cX7_reckonEach 95 = .ok (.istore 8, 2) := by decide +kernel
theorem dX7_reckonEach_97 : decode cX7_reckonEach 97 = .ok (.iload 8, 2) := by decide +kernel
theorem dX7_reckonEach_99 : decode cX7_reckonEach 99 = .ok (.bipush 6, 2) := by decide +kernel
theorem dX7_reckonEach_101 : decode cX7_reckonEach 101 = .ok (.if_icmp .ge 39, 3) := by decide +kernel
theorem dX7_reckonEach_104 : decode cX7_reckonEach 104 = .ok (.aload_n 0, 1) := by decide +kernel
theorem dX7_reckonEach_105 : decode cX7_reckonEach 105 = .ok (.getfield 29, 3) := by decide +kernel
theorem dX7_reckonEach_108 : decode cX7_reckonEach 108 = .ok (.iload 8, 2) := by decide +kernel
theorem dX7_reckonEach_110 : decode cX7_reckonEach 110 = .ok (.iload 4, 2) := by decide +kernel
theorem dX7_reckonEach_112 : decode cX7_reckonEach 112 = .ok (.iload 8, 2) := by decide +kernel
theorem dX7_reckonEach_114 : decode cX7_reckonEach 114 = .ok (.ishr, 1) := by decide +kernel
theorem dX7_reckonEach_115 : decode cX7_reckonEach 115 = .ok (.iconst 1, 1) := by decide +kernel
theorem dX7_reckonEach_116 : decode cX7_reckonEach 116 = .ok (.iand, 1) := by decide +kernel
theorem dX7_reckonEach_117 : decode cX7_reckonEach 117 = .ok (.iconst 1, 1) := by decide +kernel
theorem dX7_reckonEach_118 : decode cX7_reckonEach 118 = .ok (.if_icmp .ne 13, 3) := by decide +kernel
theorem dX7_reckonEach_121 : decode cX7_reckonEach 121 = .ok (.aload_n 0, 1) := by decide +kernel
theorem dX7_reckonEach_122 : decode cX7_reckonEach 122 = .ok (.getfield 29, 3) := by decide +kernel
theorem dX7_reckonEach_125 : decode cX7_reckonEach 125 = .ok (.iload 8, 2) := by decide +kernel
theorem dX7_reckonEach_127 : decode cX7_reckonEach 127 = .ok (.iaload, 1) := by decide +kernel
theorem dX7_reckonEach_128 : decode cX7_reckonEach 128 = .ok (.goto 5, 3) := by decide +kernel
theorem dX7_reckonEach_131 : decode cX7_reckonEach 131 = .ok (.ldc 73, 2) := by decide +kernel
theorem dX7_reckonEach_133 : decode cX7_reckonEach 133 = .ok (.iastore, 1) := by decide +kernel
theorem dX7_reckonEach_134 : decode cX7_reckonEach 134 = .ok (.iinc 8 1, 3) := by decide +kernel
theorem dX7_reckonEach_137 : decode cX7_reckonEach 137 = .ok (.goto (-40), 3) := by decide +kernel
theorem dX7_reckonEach_140 : decode cX7_reckonEach 140 = .ok (.goto 85, 3) := by decide +kernel
theorem dX7_reckonEach_143 : decode cX7_reckonEach 143 = .ok (.iload_n 3, 1) := by decide +kernel
theorem dX7_reckonEach_144 : decode cX7_reckonEach 144 = .ok (.bipush 8, 2) := by decide +kernel
theorem dX7_reckonEach_146 : decode cX7_reckonEach 146 = .ok (.if_icmp .ne 49, 3) := by decide +kernel
theorem dX7_reckonEach_149 : decode cX7_reckonEach 149 = .ok (.iconst 0, 1) := by decide +kernel
theorem dX7_reckonEach_150 : decode cX7_reckonEach 150 = .ok (.istore 8, 2) := by decide +kernel
theorem dX7_reckonEach_152 : decode cX7_reckonEach 152 = .ok (.iload 8, 2) := by decide +kernel
theorem dX7_reckonEach_154 : decode cX7_reckonEach 154 = .ok (.iload 6, 2) := by decide +kernel
theorem dX7_reckonEach_156 : decode cX7_reckonEach 156 = .ok (.if_icmp .ge 36, 3) := by decide +kernel
theorem dX7_reckonEach_159 : decode cX7_reckonEach 159 = .ok (.iload 7, 2) := by decide +kernel
theorem dX7_reckonEach_161 : decode cX7_reckonEach 161 = .ok (.ifCond .eq 22, 3) := by decide +kernel
theorem dX7_reckonEach_164 : decode cX7_reckonEach 164 = .ok (.aload_n 0, 1) := by decide +kernel
theorem dX7_reckonEach_165 : decode cX7_reckonEach 165 = .ok (.iload_n 2, 1) := by decide +kernel
theorem dX7_reckonEach_166 : decode cX7_reckonEach 166 = .ok (.iload 6, 2) := by decide +kernel
theorem dX7_reckonEach_168 : decode cX7_reckonEach 168 = .ok (.iload_n 2, 1) := by decide +kernel
theorem dX7_reckonEach_169 : decode cX7_reckonEach 169 = .ok (.iload 8, 2) := by decide +kernel
theorem dX7_reckonEach_171 : decode cX7_reckonEach 171 = .ok (.bipush 63, 2) := by decide +kernel
theorem dX7_reckonEach_173 : decode cX7_reckonEach 173 = .ok (.invokevirtual 130, 3) := by decide +kernel
theorem dX7_reckonEach_176 : decode cX7_reckonEach 176 = .ok (.ifCond .ne 7, 3) := by decide +kernel
theorem dX7_reckonEach_179 : decode cX7_reckonEach 179 = .ok (.iconst 1, 1) := by decide +kernel
theorem dX7_reckonEach_180 : decode cX7_reckonEach 180 = .ok (.goto 4, 3) := by decide +kernel
theorem dX7_reckonEach_183 : decode cX7_reckonEach 183 = .ok (.iconst 0, 1) := by decide +kernel
theorem dX7_reckonEach_184 : decode cX7_reckonEach 184 = .ok (.istore 7, 2) := by decide +kernel
theorem dX7_reckonEach_186 : decode cX7_reckonEach 186 = .ok (.iinc 8 1, 3) := by decide +kernel
