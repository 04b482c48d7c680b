theorem dX12_merge_14 : decode cX12_merge 14 = .ok (.iconst (-1), 1) := by decide +kernel
theorem dX12_merge_15 : decode cX12_merge 15 = .ok (.ireturn, 1) := by decide +kernel
theorem dX12_undo_0 : decode cX12_undo 0 = .ok (.aload_n 0, 1) := by decide +kernel
theorem dX12_undo_1 : decode cX12_undo 1 = .ok (.iconst 0, 1) := by decide +kernel
theorem dX12_undo_2 : decode cX12_undo 2 = .ok (.putfield 85, 3) := by decide +kernel
theorem dX12_undo_5 : decode cX12_undo 5 = .ok (.aload_n 0, 1) := by decide +kernel
theorem dX12_undo_6 : decode cX12_undo 6 = .ok (.getfield 102, 3) := by decide +kernel
theorem dX12_undo_9 : decode cX12_undo 9 = .ok (.ifCond .ne 6, 3) := by decide +kernel
theorem dX12_undo_12 : decode cX12_undo 12 = .ok (.bipush (-2), 2) := by decide +kernel
theorem dX12_undo_14 : decode cX12_undo 14 = .ok (.ireturn, 1) := by decide +kernel
theorem dX12_told_0 : decode cX12_told 0 = .ok (.aload_n 0, 1) := by decide +kernel
theorem dX12_told_1 : decode cX12_told 1 = .ok (.iconst 0, 1) := by decide +kernel
theorem dX12_told_2 : decode cX12_told 2 = .ok (.putfield 85, 3) := by decide +kernel
theorem dX12_told_5 : decode cX12_told 5 = .ok (.aload_n 0, 1) := by decide +kernel
theorem dX12_told_6 : decode cX12_told 6 = .ok (.iload_n 1, 1) := by decide +kernel
theorem dX12_told_7 : decode cX12_told 7 = .ok (.invokevirtual 132, 3) := by decide +kernel
theorem dX12_told_10 : decode cX12_told 10 = .ok (.ifCond .eq 15, 3) := by decide +kernel
theorem dX12_told_25 : decode cX12_told 25 = .ok (.iconst (-1), 1) := by decide +kernel
theorem dX12_told_26 : decode cX12_told 26 = .ok (.ireturn, 1) := by decide +kernel
theorem dX12_ask_0 : decode cX12_ask 0 = .ok (.aload_n 0, 1) := by decide +kernel
theorem dX12_ask_1 : decode cX12_ask 1 = .ok (.iconst 0, 1) := by decide +kernel
theorem dX12_ask_2 : decode cX12_ask 2 = .ok (.putfield 85, 3) := by decide +kernel
theorem dX12_ask_5 : decode cX12_ask 5 = .ok (.aload_n 0, 1) := by decide +kernel
theorem dX12_ask_6 : decode cX12_ask 6 = .ok (.iload_n 1, 1) := by decide +kernel
theorem dX12_ask_7 : decode cX12_ask 7 = .ok (.invokevirtual 132, 3) := by decide +kernel
theorem dX12_ask_10 : decode cX12_ask 10 = .ok (.ifCond .eq 15, 3) := by decide +kernel
theorem dX12_ask_25 : decode cX12_ask 25 = .ok (.iconst (-1), 1) := by decide +kernel
theorem dX12_ask_26 : decode cX12_ask 26 = .ok (.ireturn, 1) := by decide +kernel
theorem dX12_most_0 : decode cX12_most 0 = .ok (.aload_n 0, 1) := by decide +kernel
theorem dX12_most_1 : decode cX12_most 1 = .ok (.iconst 0, 1) := by decide +kernel
theorem dX12_most_2 : decode cX12_most 2 = .ok (.putfield 85, 3) := by decide +kernel
theorem dX12_most_5 : decode cX12_most 5 = .ok (.aload_n 0, 1) := by decide +kernel
theorem dX12_most_6 : decode cX12_most 6 = .ok (.iload_n 1, 1) := by decide +kernel
theorem dX12_most_7 : decode cX12_most 7 = .ok (.iload_n 2, 1) := by decide +kernel
theorem dX12_most_8 : decode cX12_most 8 = .ok (.invokevirtual 143, 3) := by decide +kernel
theorem dX12_most_11 : decode cX12_most 11 = .ok (.ifCond .eq 15, 3) := by decide +kernel
theorem dX12_most_26 : decode cX12_most 26 = .ok (.iconst (-1), 1) := by decide +kernel
theorem dX12_most_27 : decode cX12_most 27 = .ok (.ireturn, 1) := by decide +kernel
theorem dX12_flow_0 : decode cX12_flow 0 = .ok (.aload_n 0, 1) := by decide +kernel
theorem dX12_flow_1 : decode cX12_flow 1 = .ok (.iconst 0, 1) := by decide +kernel
theorem dX12_flow_2 : decode cX12_flow 2 = .ok (.putfield 85, 3) := by decide +kernel
theorem dX12_flow_5 : decode cX12_flow 5 = .ok (.aload_n 0, 1) := by decide +kernel
theorem dX12_flow_6 : decode cX12_flow 6 = .ok (.iload_n 1, 1) := by decide +kernel
theorem dX12_flow_7 : decode cX12_flow 7 = .ok (.iload_n 2, 1) := by decide +kernel
theorem dX12_flow_8 : decode cX12_flow 8 = .ok (.invokevirtual 143, 3) := by decide +kernel
theorem dX12_flow_11 : decode cX12_flow 11 = .ok (.ifCond .eq 31, 3) := by decide +kernel
theorem dX12_flow_42 : decode cX12_flow 42 = .ok (.ldc 187, 2) := by decide +kernel
theorem dX12_flow_44 : decode cX12_flow 44 = .ok (.ireturn, 1) := by decide +kernel
theorem dX12_cut_0 : decode cX12_cut 0 = .ok (.aload_n 0, 1) := by decide +kernel
theorem dX12_cut_1 : decode cX12_cut 1 = .ok (.iconst 0, 1) := by decide +kernel
theorem dX12_cut_2 : decode cX12_cut 2 = .ok (.putfield 85, 3) := by decide +kernel
theorem dX12_cut_5 : decode cX12_cut 5 = .ok (.aload_n 0, 1) := by decide +kernel
theorem dX12_cut_6 : decode cX12_cut 6 = .ok (.iload_n 1, 1) := by decide +kernel
theorem dX12_cut_7 : decode cX12_cut 7 = .ok (.iload_n 2, 1) := by decide +kernel
theorem dX12_cut_8 : decode cX12_cut 8 = .ok (.invokevirtual 143, 3) := by decide +kernel
theorem dX12_cut_11 : decode cX12_cut 11 = .ok (.ifCond .eq 13, 3) := by decide +kernel
theorem dX12_cut_24 : decode cX12_cut 24 = .ok (.iconst (-1), 1) := by decide +kernel
theorem dX12_cut_25 : decode cX12_cut 25 = .ok (.ireturn, 1) := by decide +kernel
theorem dX12_count_0 : decode cX12_count 0 = .ok (.aload_n 0, 1) := by decide +kernel
theorem dX12_count_1 : decode cX12_count 1 = .ok (.iconst 0, 1) := by decide +kernel
theorem dX12_count_2 : decode cX12_count 2 = .ok (.putfield 85, 3) := by decide +kernel
theorem dX12_count_5 : decode cX12_count 5 = .ok (.aload_n 0, 1) := by decide +kernel
theorem dX12_count_6 : decode cX12_count 6 = .ok (.iload_n 1, 1) := by decide +kernel
theorem dX12_count_7 : decode cX12_count 7 = .ok (.iload_n 2, 1) := by decide +kernel
theorem dX12_count_8 : decode cX12_count 8 = .ok (.invokevirtual 143, 3) := by decide +kernel
theorem dX12_count_11 : decode cX12_count 11 = .ok (.ifCond .ne 5, 3) := by decide +kernel
theorem dX12_count_14 : decode cX12_count 14 = .ok (.iconst (-1), 1) := by decide +kernel
theorem dX12_count_15 : decode cX12_count 15 = .ok (.ireturn, 1) := by decide +kernel
theorem dX12_next_0 : decode cX12_next 0 = .ok (.aload_n 0, 1) := by decide +kernel
theorem dX12_next_1 : decode cX12_next 1 = .ok (.iconst 0, 1) := by decide +kernel
theorem dX12_next_2 : decode cX12_next 2 = .ok (.putfield 85, 3) := by decide +kernel
theorem dX12_next_5 : decode cX12_next 5 = .ok (.aload_n 0, 1) := by decide +kernel
theorem dX12_next_6 : decode cX12_next 6 = .ok (.iload_n 1, 1) := by decide +kernel
theorem dX12_next_7 : decode cX12_next 7 = .ok (.iload_n 2, 1) := by decide +kernel
theorem dX12_next_8 : decode cX12_next 8 = .ok (.invokevirtual 143, 3) := by decide +kernel
theorem dX12_next_11 : decode cX12_next 11 = .ok (.ifCond .eq 7, 3) := by decide +kernel
theorem dX12_next_18 : decode cX12_next 18 = .ok (.iconst (-1), 1) := by decide +kernel
theorem dX12_next_19 : decode cX12_next 19 = .ok (.ireturn, 1) := by decide +kernel
theorem dX12_size_0 : decode cX12_size 0 = .ok (.aload_n 0, 1) := by decide +kernel
theorem dX12_size_1 : decode cX12_size 1 = .ok (.iconst 0, 1) := by decide +kernel
theorem dX12_size_2 : decode cX12_size 2 = .ok (.putfield 85, 3) := by decide +kernel
theorem dX12_size_5 : decode cX12_size 5 = .ok (.aload_n 0, 1) := by decide +kernel
theorem dX12_size_6 : decode cX12_size 6 = .ok (.iload_n 1, 1) := by decide +kernel
theorem dX12_size_7 : decode cX12_size 7 = .ok (.iload_n 2, 1) := by decide +kernel
theorem dX12_size_8 : decode cX12_size 8 = .ok (.invokevirtual 143, 3) := by decide +kernel
theorem dX12_size_11 : decode cX12_size 11 = .ok (.ifCond .ne 5, 3) := by decide +kernel
theorem dX12_size_14 : decode cX12_size 14 = .ok (.iconst (-1), 1) := by decide +kernel
theorem dX12_size_15 : decode cX12_size 15 = .ok (.ireturn, 1) := by decide +kernel
theorem dX12_raise_0 : decode cX12_raise 0 = .ok (.aload_n 0, 1) := by decide +kernel
theorem dX12_raise_1 : decode cX12_raise 1 = .ok (.iconst 0, 1) := by decide +kernel
theorem dX12_raise_2 : decode cX12_raise 2 = .ok (.putfield 85, 3) := by decide +kernel
theorem dX12_raise_5 : decode cX12_raise 5 = .ok (.aload_n 0, 1) := by decide +kernel
theorem dX12_raise_6 : decode cX12_raise 6 = .ok (.iload_n 1, 1) := by decide +kernel
theorem dX12_raise_7 : decode cX12_raise 7 = .ok (.iload_n 2, 1) := by decide +kernel
theorem dX12_raise_8 : decode cX12_raise 8 = .ok (.invokevirtual 143, 3) := by decide +kernel
theorem dX12_raise_11 : decode cX12_raise 11 = .ok (.ifCond .eq 11, 3) := by decide +kernel
theorem dX12_raise_22 : decode cX12_raise 22 = .ok (.iconst (-1), 1) := by decide +kernel
theorem dX12_raise_23 : decode cX12_raise 23 = .ok (.ireturn, 1) := by decide +kernel
theorem dX12_cheapest_0 : decode cX12_cheapest 0 = .ok (.aload_n 0, 1) := by decide +kernel
theorem dX12_cheapest_1 : decode cX12_cheapest 1 = .ok (.iconst 0, 1) := by decide +kernel
theorem dX12_cheapest_2 : decode cX12_cheapest 2 = .ok (.putfield 85, 3) := by decide +kernel
theorem dX12_cheapest_5 : decode cX12_cheapest 5 = .ok (.aload_n 0, 1) := by decide +kernel
theorem dX12_cheapest_6 : decode cX12_cheapest 6 = .ok (.iload_n 1, 1) := by decide +kernel
theorem dX12_cheapest_7 : decode cX12_cheapest 7 = .ok (.iload_n 2, 1) := by decide +kernel
theorem dX12_cheapest_8 : decode cX12_cheapest 8 = .ok (.invokevirtual 143, 3) := by decide +kernel
theorem dX12_cheapest_11 : decode cX12_cheapest 11 = .ok (.ifCond .eq 15, 3) := by decide +kernel
theorem dX12_cheapest_26 : decode cX12_cheapest 26 = .ok (.iconst (-1), 1) := by decide +kernel
theorem dX12_cheapest_27 : decode cX12_cheapest 27 = .ok (.ireturn, 1) := by decide +kernel
theorem dX12_isWhole_0 : decode cX12_isWhole 0 = .ok (.aload_n 0, 1) := by decide +kernel
theorem dX12_isWhole_1 : decode cX12_isWhole 1 = .ok (.getfield 88, 3) := by decide +kernel
theorem dX12_isWhole_4 : decode cX12_isWhole 4 = .ok (.iconst 1, 1) := by decide +kernel
theorem dX12_isWhole_5 : decode cX12_isWhole 5 = .ok (.if_icmp .le 7, 3) := by decide +kernel
theorem dX12_isWhole_12 : decode cX12_isWhole 12 = .ok (.iconst 0, 1) := by decide +kernel
theorem dX12_isWhole_13 : decode cX12_isWhole 13 = .ok (.istore_n 1, 1) := by decide +kernel
theorem dX12_isWhole_14 : decode cX12_isWhole 14 = .ok (.iconst 0, 1) := by decide +kernel
theorem dX12_isWhole_15 : decode cX12_isWhole 15 = .ok (.istore_n 2, 1) := by decide +kernel
theorem dX12_isWhole_16 : decode cX12_isWhole 16 = .ok (.iload_n 2, 1) := by decide +kernel
theorem dX12_isWhole_17 : decode cX12_isWhole 17 = .ok (.aload_n 0, 1) := by decide +kernel
theorem dX12_isWhole_18 : decode cX12_isWhole 18 = .ok (.getfield 95, 3) := by decide +kernel
theorem dX12_isWhole_21 : decode cX12_isWhole 21 = .ok (.if_icmp .ge 46, 3) := by decide +kernel
theorem dX12_isWhole_67 : decode cX12_isWhole 67 = .ok (.iload_n 1, 1) := by decide +kernel
theorem dX12_isWhole_68 : decode cX12_isWhole 68 = .ok (.ireturn, 1) := by decide +kernel
theorem dX12_tree_0 : decode cX12_tree 0 = .ok (.aload_n 0, 1) := by decide +kernel
theorem dX12_tree_1 : decode cX12_tree 1 = .ok (.iconst 0, 1) := by decide +kernel
theorem dX12_tree_2 : decode cX12_tree 2 = .ok (.putfield 85, 3) := by decide +kernel
theorem dX12_tree_5 : decode cX12_tree 5 = .ok (.iload_n 2, 1) := by decide +kernel
theorem dX12_tree_6 : decode cX12_tree 6 = .ok (.i2l, 1) := by decide +kernel
theorem dX12_tree_7 : decode cX12_tree 7 = .ok (.lconst 0, 1) := by decide +kernel
theorem dX12_tree_8 : decode cX12_tree 8 = .ok (.lconst 1, 1) := by decide +kernel
theorem dX12_tree_9 : decode cX12_tree 9 = .ok (.invokestatic 91, 3) := by decide +kernel
theorem dX12_tree_12 : decode cX12_tree 12 = .ok (.ifCond .ne 5, 3) := by decide +kernel
theorem dX12_tree_15 : decode cX12_tree 15 = .ok (.iconst (-1), 1) := by decide +kernel
theorem dX12_tree_16 : decode cX12_tree 16 = .ok (.ireturn, 1) := by decide +kernel
theorem dX12_tree_17 : decode cX12_tree 17 = .ok (.aload_n 0, 1) := by decide +kernel
theorem dX12_tree_18 : decode cX12_tree 18 = .ok (.invokevirtual 225, 3) := by decide +kernel
theorem dX12_tree_21 : decode cX12_tree 21 = .ok (.ifCond .ne 6, 3) := by decide +kernel
theorem dX12_tree_24 : decode cX12_tree 24 = .ok (.bipush (-2), 2) := by decide +kernel
theorem dX12_tree_26 : decode cX12_tree 26 = .ok (.ireturn, 1) := by decide +kernel
theorem dX12_between_0 : decode cX12_between 0 = .ok (.aload_n 0, 1) := by decide +kernel
theorem dX12_between_1 : decode cX12_between 1 = .ok (.iconst 0, 1) := by decide +kernel
theorem dX12_between_2 : decode cX12_between 2 = .ok (.putfield 85, 3) := by decide +kernel
theorem dX12_between_5 : decode cX12_between 5 = .ok (.aload_n 0, 1) := by decide +kernel
theorem dX12_between_6 : decode cX12_between 6 = .ok (.invokevirtual 225, 3) := by decide +kernel
theorem dX12_between_9 : decode cX12_between 9 = .ok (.ifCond .ne 6, 3) := by decide +kernel
theorem dX12_between_12 : decode cX12_between 12 = .ok (.bipush (-2), 2) := by decide +kernel
theorem dX12_between_14 : decode cX12_between 14 = .ok (.ireturn, 1) := by decide +kernel
theorem dX12_least_0 : decode cX12_least 0 = .ok (.aload_n 0, 1) := by decide +kernel
theorem dX12_least_1 : decode cX12_least 1 = .ok (.iconst 0, 1) := by decide +kernel
theorem dX12_least_2 : decode cX12_least 2 = .ok (.putfield 85, 3) := by decide +kernel
theorem dX12_least_5 : decode cX12_least 5 = .ok (.aload_n 0, 1) := by decide +kernel
theorem dX12_least_6 : decode cX12_least 6 = .ok (.invokevirtual 225, 3) := by decide +kernel
theorem dX12_least_9 : decode cX12_least 9 = .ok (.ifCond .eq 10, 3) := by decide +kernel
theorem dX12_least_19 : decode cX12_least 19 = .ok (.bipush (-2), 2) := by decide +kernel
theorem dX12_least_21 : decode cX12_least 21 = .ok (.ireturn, 1) := by decide +kernel
theorem dX12_cuts_0 : decode cX12_cuts 0 = .ok (.aload_n 0, 1) := by decide +kernel
theorem dX12_cuts_1 : decode cX12_cuts 1 = .ok (.iconst 0, 1) := by decide +kernel
theorem dX12_cuts_2 : decode cX12_cuts 2 = .ok (.putfield 85, 3) := by decide +kernel
theorem dX12_cuts_5 : decode cX12_cuts 5 = .ok (.aload_n 0, 1) := by decide +kernel
theorem dX12_cuts_6 : decode cX12_cuts 6 = .ok (.invokevirtual 225, 3) := by decide +kernel
theorem dX12_cuts_9 : decode cX12_cuts 9 = .ok (.ifCond .ne 6, 3) := by decide +kernel
theorem dX12_cuts_12 : decode cX12_cuts 12 = .ok (.bipush (-2), 2) := by decide +kernel
theorem dX12_cuts_14 : decode cX12_cuts 14 = .ok (.ireturn, 1) := by decide +kernel
theorem dX12_cutAt_0 : decode cX12_cutAt 0 = .ok (.aload_n 0, 1) := by decide +kernel
theorem dX12_cutAt_1 : decode cX12_cutAt 1 = .ok (.iconst 0, 1) := by decide +kernel
theorem dX12_cutAt_2 : decode cX12_cutAt 2 = .ok (.putfield 85, 3) := by decide +kernel
theorem dX12_cutAt_5 : decode cX12_cutAt 5 = .ok (.iload_n 1, 1) := by decide +kernel
theorem dX12_cutAt_6 : decode cX12_cutAt 6 = .ok (.ifCond .ge 5, 3) := by decide +kernel
theorem dX12_cutAt_9 : decode cX12_cutAt 9 = .ok (.iconst (-1), 1) := by decide +kernel
theorem dX12_cutAt_10 : decode cX12_cutAt 10 = .ok (.ireturn, 1) := by decide +kernel
theorem dX12_cutAt_11 : decode cX12_cutAt 11 = .ok (.aload_n 0, 1) := by decide +kernel
theorem dX12_cutAt_12 : decode cX12_cutAt 12 = .ok (.invokevirtual 225, 3) := by decide +kernel
theorem dX12_cutAt_15 : decode cX12_cutAt 15 = .ok (.ifCond .ne 6, 3) := by decide +kernel
theorem dX12_cutAt_18 : decode cX12_cutAt 18 = .ok (.bipush (-2), 2) := by decide +kernel
theorem dX12_cutAt_20 : decode cX12_cutAt 20 = .ok (.ireturn, 1) := by decide +kernel
theorem dX12_weak_0 : decode cX12_weak 0 = .ok (.aload_n 0, 1) := by decide +kernel
theorem dX12_weak_1 : decode cX12_weak 1 = .ok (.iconst 0, 1) := by decide +kernel
theorem dX12_weak_2 : decode cX12_weak 2 = .ok (.putfield 85, 3) := by decide +kernel
theorem dX12_weak_5 : decode cX12_weak 5 = .ok (.aload_n 0, 1) := by decide +kernel
theorem dX12_weak_6 : decode cX12_weak 6 = .ok (.iload_n 1, 1) := by decide +kernel
theorem dX12_weak_7 : decode cX12_weak 7 = .ok (.invokevirtual 132, 3) := by decide +kernel
theorem dX12_weak_10 : decode cX12_weak 10 = .ok (.ifCond .ne 5, 3) := by decide +kernel
theorem dX12_weak_13 : decode cX12_weak 13 = .ok (.iconst (-1), 1) := by decide +kernel
theorem dX12_weak_14 : decode cX12_weak 14 = .ok (.ireturn, 1) := by decide +kernel
theorem dX12_part_0 : decode cX12_part 0 = .ok (.aload_n 0, 1) := by decide +kernel
theorem dX12_part_1 : decode cX12_part 1 = .ok (.iconst 0, 1) := by decide +kernel
theorem dX12_part_2 : decode cX12_part 2 = .ok (.putfield 85, 3) := by decide +kernel
theorem dX12_part_5 : decode cX12_part 5 = .ok (.iload_n 1, 1) := by decide +kernel
theorem dX12_part_6 : decode cX12_part 6 = .ok (.ifCond .ge 5, 3) := by decide +kernel
theorem dX12_part_9 : decode cX12_part 9 = .ok (.iconst (-1), 1) := by decide +kernel
theorem dX12_part_10 : decode cX12_part 10 = .ok (.ireturn, 1) := by decide +kernel
theorem dX12_part_11 : decode cX12_part 11 = .ok (.aload_n 0, 1) := by decide +kernel
theorem dX12_part_12 : decode cX12_part 12 = .ok (.invokevirtual 225, 3) := by decide +kernel
theorem dX12_part_15 : decode cX12_part 15 = .ok (.ifCond .ne 6, 3) := by decide +kernel
theorem dX12_part_18 : decode cX12_part 18 = .ok (.bipush (-2), 2) := by decide +kernel
theorem dX12_part_20 : decode cX12_part 20 = .ok (.ireturn, 1) := by decide +kernel
theorem dX12_dense_0 : decode cX12_dense 0 = .ok (.aload_n 0, 1) := by decide +kernel
theorem dX12_dense_1 : decode cX12_dense 1 = .ok (.iconst 0, 1) := by decide +kernel
theorem dX12_dense_2 : decode cX12_dense 2 = .ok (.putfield 85, 3) := by decide +kernel
theorem dX12_dense_5 : decode cX12_dense 5 = .ok (.iload_n 1, 1) := by decide +kernel
theorem dX12_dense_6 : decode cX12_dense 6 = .ok (.i2l, 1) := by decide +kernel
theorem dX12_dense_7 : decode cX12_dense 7 = .ok (.lconst 0, 1) := by decide +kernel
theorem dX12_dense_8 : decode cX12_dense 8 = .ok (.ldc2_w 149, 3) := by decide +kernel
theorem dX12_dense_11 : decode cX12_dense 11 = .ok (.invokestatic 91, 3) := by decide +kernel
theorem dX12_dense_14 : decode cX12_dense 14 = .ok (.ifCond .ne 5, 3) := by decide +kernel
theorem dX12_dense_17 : decode cX12_dense 17 = .ok (.iconst (-1), 1) := by decide +kernel
theorem dX12_dense_18 : decode cX12_dense 18 = .ok (.ireturn, 1) := by decide +kernel
theorem dX12_dense_19 : decode cX12_dense 19 = .ok (.aload_n 0, 1) := by decide +kernel
theorem dX12_dense_20 : decode cX12_dense 20 = .ok (.invokevirtual 225, 3) := by decide +kernel
theorem dX12_dense_23 : decode cX12_dense 23 = .ok (.ifCond .ne 6, 3) := by decide +kernel
theorem dX12_dense_26 : decode cX12_dense 26 = .ok (.bipush (-2), 2) := by decide +kernel
theorem dX12_dense_28 : decode cX12_dense 28 = .ok (.ireturn, 1) := by decide +kernel
theorem dX12_no_0 : decode cX12_no 0 = .ok (.aload_n 0, 1) := by decide +kernel
theorem dX12_no_1 : decode cX12_no 1 = .ok (.iload_n 1, 1) := by decide +kernel
theorem dX12_no_2 : decode cX12_no 2 = .ok (.putfield 240, 3) := by decide +kernel
theorem dX12_no_5 : decode cX12_no 5 = .ok (.iload_n 1, 1) := by decide +kernel
theorem dX12_no_6 : decode cX12_no 6 = .ok (.ireturn, 1) := by decide +kernel
theorem dX12_map_0 : decode cX12_map 0 = .ok (.aload_n 0, 1) := by decide +kernel
theorem dX12_map_1 : decode cX12_map 1 = .ok (.iconst 0, 1) := by decide +kernel
theorem dX12_map_2 : decode cX12_map 2 = .ok (.putfield 85, 3) := by decide +kernel
theorem dX12_map_5 : decode cX12_map 5 = .ok (.aload_n 0, 1) := by decide +kernel
theorem dX12_map_6 : decode cX12_map 6 = .ok (.iconst 0, 1) := by decide +kernel
theorem dX12_map_7 : decode cX12_map 7 = .ok (.putfield 240, 3) := by decide +kernel
theorem dX12_map_10 : decode cX12_map 10 = .ok (.iload_n 1, 1) := by decide +kernel
theorem dX12_map_11 : decode cX12_map 11 = .ok (.i2l, 1) := by decide +kernel
theorem dX12_map_12 : decode cX12_map 12 = .ok (.lconst 0, 1) := by decide +kernel
theorem dX12_map_13 : decode cX12_map 13 = .ok (.ldc2_w 243, 3) := by decide +kernel
theorem dX12_map_16 : decode cX12_map 16 = .ok (.invokestatic 91, 3) := by decide +kernel
theorem dX12_map_19 : decode cX12_map 19 = .ok (.ifCond .eq 21, 3) := by decide +kernel
theorem dX12_map_22 : decode cX12_map 22 = .ok (.iload_n 2, 1) := by decide +kernel
theorem dX12_map_23 : decode cX12_map 23 = .ok (.i2l, 1) := by decide +kernel
theorem dX12_map_24 : decode cX12_map 24 = .ok (.lconst 0, 1) := by decide +kernel
theorem dX12_map_25 : decode cX12_map 25 = .ok (.ldc2_w 149, 3) := by decide +kernel
theorem dX12_map_28 : decode cX12_map 28 = .ok (.invokestatic 91, 3) := by decide +kernel
theorem dX12_map_31 : decode cX12_map 31 = .ok (.ifCond .eq 9, 3) := by decide +kernel
theorem dX12_map_34 : decode cX12_map 34 = .ok (.iload_n 3, 1) := by decide +kernel
theorem dX12_map_35 : decode cX12_map 35 = .ok (.bipush 6, 2) := by decide +kernel
theorem dX12_map_37 : decode cX12_map 37 = .ok (.if_icmp .le 9, 3) := by decide +kernel
theorem dX12_map_40 : decode cX12_map 40 = .ok (.aload_n 0, 1) := by decide +kernel
theorem dX12_map_41 : decode cX12_map 41 = .ok (.iconst (-1), 1) := by decide +kernel
theorem dX12_map_42 : decode cX12_map 42 = .ok (.invokevirtual 245, 3) := by decide +kernel
theorem dX12_map_45 : decode cX12_map 45 = .ok (.ireturn, 1) := by decide +kernel
theorem dX12_map_46 : decode cX12_map 46 = .ok (.iload_n 3, 1) := by decide +kernel
theorem dX12_map_47 : decode cX12_map 47 = .ok (.ifCond .ge 10, 3) := by decide +kernel
theorem dX12_map_50 : decode cX12_map 50 = .ok (.aload_n 0, 1) := by decide +kernel
theorem dX12_map_51 : decode cX12_map 51 = .ok (.bipush (-15), 2) := by decide +kernel
theorem dX12_map_53 : decode cX12_map 53 = .ok (.invokevirtual 245, 3) := by decide +kernel
theorem dX12_map_56 : decode cX12_map 56 = .ok (.ireturn, 1) := by decide +kernel
theorem dX12_map_57 : decode cX12_map 57 = .ok (.aload_n 0, 1) := by decide +kernel
theorem dX12_map_58 : decode cX12_map 58 = .ok (.getfield 38, 3) := by decide +kernel
theorem dX12_map_61 : decode cX12_map 61 = .ok (.iload_n 1, 1) := by decide +kernel
theorem dX12_map_62 : decode cX12_map 62 = .ok (.iconst 1, 1) := by decide +kernel
theorem dX12_map_63 : decode cX12_map 63 = .ok (.bastore, 1) := by decide +kernel
theorem dX12_map_64 : decode cX12_map 64 = .ok (.aload_n 0, 1) := by decide +kernel
theorem dX12_map_65 : decode cX12_map 65 = .ok (.getfield 41, 3) := by decide +kernel
theorem dX12_map_68 : decode cX12_map 68 = .ok (.iload_n 1, 1) := by decide +kernel
theorem dX12_map_69 : decode cX12_map 69 = .ok (.iload_n 2, 1) := by decide +kernel
theorem dX12_map_70 : decode cX12_map 70 = .ok (.iastore, 1) := by decide +kernel
theorem dX12_map_71 : decode cX12_map 71 = .ok (.aload_n 0, 1) := by decide +kernel
theorem dX12_map_72 : decode cX12_map 72 = .ok (.getfield 44, 3) := by decide +kernel
theorem dX12_map_75 : decode cX12_map 75 = .ok (.iload_n 1, 1) := by decide +kernel
theorem dX12_map_76 : decode cX12_map 76 = .ok (.iload_n 3, 1) := by decide +kernel
theorem dX12_map_77 : decode cX12_map 77 = .ok (.iastore, 1) := by decide +kernel
theorem dX12_map_78 : decode cX12_map 78 = .ok (.iconst 0, 1) := by decide +kernel
theorem dX12_map_79 : decode cX12_map 79 = .ok (.istore 4, 2) := by decide +kernel
theorem dX12_map_81 : decode cX12_map 81 = .ok (.iload 4, 2) := by decide +kernel
theorem dX12_map_83 : decode cX12_map 83 = .ok (.bipush 6, 2) := by decide +kernel
theorem dX12_map_85 : decode cX12_map 85 = .ok (.if_icmp .ge 23, 3) := by decide +kernel
theorem dX12_map_88 : decode cX12_map 88 = .ok (.aload_n 0, 1) := by decide +kernel
theorem dX12_map_89 : decode cX12_map 89 = .ok (.getfield 47, 3) := by decide +kernel
theorem dX12_map_92 : decode cX12_map 92 = .ok (.bipush 6, 2) := by decide +kernel
theorem dX12_map_94 : decode cX12_map 94 = .ok (.iload_n 1, 1) := by decide +kernel
theorem dX12_map_95 : decode cX12_map 95 = .ok (.imul, 1) := by decide +kernel
theorem dX12_map_96 : decode cX12_map 96 = .ok (.iload 4, 2) := by decide +kernel
theorem dX12_map_98 : decode cX12_map 98 = .ok (.iadd, 1) := by decide +kernel
theorem dX12_map_99 : decode cX12_map 99 = .ok (.bipush (-9), 2) := by decide +kernel
theorem dX12_map_101 : decode cX12_map 101 = .ok (.iastore, 1) := by decide +kernel
theorem dX12_map_102 : decode cX12_map 102 = .ok (.iinc 4 1, 3) := by decide +kernel
theorem dX12_map_105 : decode cX12_map 105 = .ok (.goto (-24), 3) := by decide +kernel
theorem dX12_map_108 : decode cX12_map 108 = .ok (.iconst 1, 1) := by decide +kernel
theorem dX12_map_109 : decode cX12_map 109 = .ok (.ireturn, 1) := by decide +kernel
theorem dX12_row_0 : decode cX12_row 0 = .ok (.aload_n 0, 1) := by decide +kernel
theorem dX12_row_1 : decode cX12_row 1 = .ok (.iconst 0, 1) := by decide +kernel
theorem dX12_row_2 : decode cX12_row 2 = .ok (.putfield 85, 3) := by decide +kernel
theorem dX12_row_5 : decode cX12_row 5 = .ok (.aload_n 0, 1) := by decide +kernel
theorem dX12_row_6 : decode cX12_row 6 = .ok (.iconst 0, 1) := by decide +kernel
theorem dX12_row_7 : decode cX12_row 7 = .ok (.putfield 240, 3) := by decide +kernel
theorem dX12_row_10 : decode cX12_row 10 = .ok (.iload_n 1, 1) := by decide +kernel
theorem dX12_row_11 : decode cX12_row 11 = .ok (.i2l, 1) := by decide +kernel
theorem dX12_row_12 : decode cX12_row 12 = .ok (.lconst 0, 1) := by decide +kernel
theorem dX12_row_13 : decode cX12_row 13 = .ok (.ldc2_w 243, 3) := by decide +kernel
theorem dX12_row_16 : decode cX12_row 16 = .ok (.invokestatic 91, 3) := by decide +kernel
theorem dX12_row_19 : decode cX12_row 19 = .ok (.ifCond .eq 8, 3) := by decide +kernel
theorem dX12_row_22 : decode cX12_row 22 = .ok (.iload_n 3, 1) := by decide +kernel
theorem dX12_row_23 : decode cX12_row 23 = .ok (.iconst 5, 1) := by decide +kernel
theorem dX12_row_24 : decode cX12_row 24 = .ok (.if_icmp .le 9, 3) := by decide +kernel
theorem dX12_row_27 : decode cX12_row 27 = .ok (.aload_n 0, 1) := by decide +kernel
theorem dX12_row_28 : decode cX12_row 28 = .ok (.iconst (-1), 1) := by decide +kernel
theorem dX12_row_29 : decode cX12_row 29 = .ok (.invokevirtual 245, 3) := by decide +kernel
theorem dX12_row_32 : decode cX12_row 32 = .ok (.ireturn, 1) := by decide +kernel
theorem dX12_row_33 : decode cX12_row 33 = .ok (.aload_n 0, 1) := by decide +kernel
theorem dX12_row_34 : decode cX12_row 34 = .ok (.getfield 38, 3) := by decide +kernel
theorem dX12_row_37 : decode cX12_row 37 = .ok (.iload_n 1, 1) := by decide +kernel
theorem dX12_row_38 : decode cX12_row 38 = .ok (.baload, 1) := by decide +kernel
theorem dX12_row_39 : decode cX12_row 39 = .ok (.ifCond .ne 10, 3) := by decide +kernel
theorem dX12_row_42 : decode cX12_row 42 = .ok (.aload_n 0, 1) := by decide +kernel
theorem dX12_row_43 : decode cX12_row 43 = .ok (.bipush (-11), 2) := by decide +kernel
theorem dX12_row_45 : decode cX12_row 45 = .ok (.invokevirtual 245, 3) := by decide +kernel
theorem dX12_row_48 : decode cX12_row 48 = .ok (.ireturn, 1) := by decide +kernel
theorem dX12_wrong_0 : decode cX12_wrong 0 = .ok (.iload_n 1, 1) := by decide +kernel
theorem dX12_wrong_1 : decode cX12_wrong 1 = .ok (.i2l, 1) := by decide +kernel
theorem dX12_wrong_2 : decode cX12_wrong 2 = .ok (.lconst 0, 1) := by decide +kernel
theorem dX12_wrong_3 : decode cX12_wrong 3 = .ok (.ldc2_w 243, 3) := by decide +kernel
theorem dX12_wrong_6 : decode cX12_wrong 6 = .ok (.invokestatic 91, 3) := by decide +kernel
theorem dX12_wrong_9 : decode cX12_wrong 9 = .ok (.ifCond .eq 15, 3) := by decide +kernel
theorem dX12_wrong_12 : decode cX12_wrong 12 = .ok (.iload_n 2, 1) := by decide +kernel
theorem dX12_wrong_13 : decode cX12_wrong 13 = .ok (.i2l, 1) := by decide +kernel
theorem dX12_wrong_14 : decode cX12_wrong 14 = .ok (.lconst 0, 1) := by decide +kernel
theorem dX12_wrong_15 : decode cX12_wrong 15 = .ok (.ldc2_w 149, 3) := by decide +kernel
theorem dX12_wrong_18 : decode cX12_wrong 18 = .ok (.invokestatic 91, 3) := by decide +kernel
theorem dX12_wrong_21 : decode cX12_wrong 21 = .ok (.ifCond .ne 5, 3) := by decide +kernel
theorem dX12_wrong_24 : decode cX12_wrong 24 = .ok (.iconst (-1), 1) := by decide +kernel
theorem dX12_wrong_25 : decode cX12_wrong 25 = .ok (.ireturn, 1) := by decide +kernel
theorem dX12_wrong_26 : decode cX12_wrong 26 = .ok (.aload_n 0, 1) := by decide +kernel
theorem dX12_wrong_27 : decode cX12_wrong 27 = .ok (.getfield 38, 3) := by decide +kernel
theorem dX12_wrong_30 : decode cX12_wrong 30 = .ok (.iload_n 1, 1) := by decide +kernel
theorem dX12_wrong_31 : decode cX12_wrong 31 = .ok (.baload, 1) := by decide +kernel
theorem dX12_wrong_32 : decode cX12_wrong 32 = .ok (.ifCond .ne 6, 3) := by decide +kernel
theorem dX12_wrong_35 : decode cX12_wrong 35 = .ok (.bipush (-11), 2) := by decide +kernel
theorem dX12_wrong_37 : decode cX12_wrong 37 = .ok (.ireturn, 1) := by decide +kernel
theorem dX12_put_0 : decode cX12_put 0 = .ok (.aload_n 0, 1) := by decide +kernel
theorem dX12_put_1 : decode cX12_put 1 = .ok (.iconst 0, 1) := by decide +kernel
theorem dX12_put_2 : decode cX12_put 2 = .ok (.putfield 85, 3) := by decide +kernel
theorem dX12_put_5 : decode cX12_put 5 = .ok (.aload_n 0, 1) := by decide +kernel
theorem dX12_put_6 : decode cX12_put 6 = .ok (.iconst 0, 1) := by decide +kernel
theorem dX12_put_7 : decode cX12_put 7 = .ok (.putfield 240, 3) := by decide +kernel
theorem dX12_put_10 : decode cX12_put 10 = .ok (.aload_n 0, 1) := by decide +kernel
theorem dX12_put_11 : decode cX12_put 11 = .ok (.iload_n 1, 1) := by decide +kernel
theorem dX12_put_12 : decode cX12_put 12 = .ok (.iload_n 2, 1) := by decide +kernel
theorem dX12_put_13 : decode cX12_put 13 = .ok (.iload_n 3, 1) := by decide +kernel
theorem dX12_put_14 : decode cX12_put 14 = .ok (.iload 4, 2) := by decide +kernel
theorem dX12_put_16 : decode cX12_put 16 = .ok (.invokevirtual 248, 3) := by decide +kernel
theorem dX12_put_19 : decode cX12_put 19 = .ok (.istore 7, 2) := by decide +kernel
theorem dX12_put_21 : decode cX12_put 21 = .ok (.iload 7, 2) := by decide +kernel
theorem dX12_put_23 : decode cX12_put 23 = .ok (.ifCond .ge 10, 3) := by decide +kernel
theorem dX12_put_26 : decode cX12_put 26 = .ok (.aload_n 0, 1) := by decide +kernel
theorem dX12_put_27 : decode cX12_put 27 = .ok (.iload 7, 2) := by decide +kernel
theorem dX12_put_29 : decode cX12_put 29 = .ok (.invokevirtual 245, 3) := by decide +kernel
theorem dX12_put_32 : decode cX12_put 32 = .ok (.ireturn, 1) := by decide +kernel
theorem dX12_copy_0 : decode cX12_copy 0 = .ok (.aload_n 0, 1) := by decide +kernel
theorem dX12_copy_1 : decode cX12_copy 1 = .ok (.iconst 0, 1) := by decide +kernel
theorem dX12_copy_2 : decode cX12_copy 2 = .ok (.putfield 85, 3) := by decide +kernel
theorem dX12_copy_5 : decode cX12_copy 5 = .ok (.aload_n 0, 1) := by decide +kernel
theorem dX12_copy_6 : decode cX12_copy 6 = .ok (.iconst 0, 1) := by decide +kernel
theorem dX12_copy_7 : decode cX12_copy 7 = .ok (.putfield 240, 3) := by decide +kernel
theorem dX12_copy_10 : decode cX12_copy 10 = .ok (.iload_n 1, 1) := by decide +kernel
theorem dX12_copy_11 : decode cX12_copy 11 = .ok (.i2l, 1) := by decide +kernel
theorem dX12_copy_12 : decode cX12_copy 12 = .ok (.lconst 0, 1) := by decide +kernel
theorem dX12_copy_13 : decode cX12_copy 13 = .ok (.ldc2_w 243, 3) := by decide +kernel
theorem dX12_copy_16 : decode cX12_copy 16 = .ok (.invokestatic 91, 3) := by decide +kernel
theorem dX12_copy_19 : decode cX12_copy 19 = .ok (.ifCond .ne 9, 3) := by decide +kernel
theorem dX12_copy_22 : decode cX12_copy 22 = .ok (.aload_n 0, 1) := by decide +kernel
theorem dX12_copy_23 : decode cX12_copy 23 = .ok (.iconst (-1), 1) := by decide +kernel
theorem dX12_copy_24 : decode cX12_copy 24 = .ok (.invokevirtual 245, 3) := by decide +kernel
theorem dX12_copy_27 : decode cX12_copy 27 = .ok (.ireturn, 1) := by decide +kernel
theorem dX12_copy_28 : decode cX12_copy 28 = .ok (.aload_n 0, 1) := by decide +kernel
theorem dX12_copy_29 : decode cX12_copy 29 = .ok (.getfield 38, 3) := by decide +kernel
theorem dX12_copy_32 : decode cX12_copy 32 = .ok (.iload_n 1, 1) := by decide +kernel
theorem dX12_copy_33 : decode cX12_copy 33 = .ok (.baload, 1) := by decide +kernel
theorem dX12_copy_34 : decode cX12_copy 34 = .ok (.ifCond .ne 10, 3) := by decide +kernel
theorem dX12_copy_37 : decode cX12_copy 37 = .ok (.aload_n 0, 1) := by decide +kernel
theorem dX12_copy_38 : decode cX12_copy 38 = .ok (.bipush (-11), 2) := by decide +kernel
theorem dX12_copy_40 : decode cX12_copy 40 = .ok (.invokevirtual 245, 3) := by decide +kernel
theorem dX12_copy_43 : decode cX12_copy 43 = .ok (.ireturn, 1) := by decide +kernel
theorem dX12_item_0 : decode cX12_item 0 = .ok (.aload_n 0, 1) := by decide +kernel
theorem dX12_item_1 : decode cX12_item 1 = .ok (.iconst 0, 1) := by decide +kernel
theorem dX12_item_2 : decode cX12_item 2 = .ok (.putfield 85, 3) := by decide +kernel
theorem dX12_item_5 : decode cX12_item 5 = .ok (.aload_n 0, 1) := by decide +kernel
theorem dX12_item_6 : decode cX12_item 6 = .ok (.aload_n 0, 1) := by decide +kernel
theorem dX12_item_7 : decode cX12_item 7 = .ok (.iload_n 1, 1) := by decide +kernel
theorem dX12_item_8 : decode cX12_item 8 = .ok (.iload_n 2, 1) := by decide +kernel
theorem dX12_item_9 : decode cX12_item 9 = .ok (.iload_n 3, 1) := by decide +kernel
theorem dX12_item_10 : decode cX12_item 10 = .ok (.iload 4, 2) := by decide +kernel
theorem dX12_item_12 : decode cX12_item 12 = .ok (.invokevirtual 248, 3) := by decide +kernel
theorem dX12_item_15 : decode cX12_item 15 = .ok (.putfield 240, 3) := by decide +kernel
theorem dX12_item_18 : decode cX12_item 18 = .ok (.aload_n 0, 1) := by decide +kernel
theorem dX12_item_19 : decode cX12_item 19 = .ok (.getfield 240, 3) := by decide +kernel
theorem dX12_item_22 : decode cX12_item 22 = .ok (.ifCond .ge 7, 3) := by decide +kernel
theorem dX12_item_25 : decode cX12_item 25 = .ok (.lconst 0, 1) := by decide +kernel
theorem dX12_item_26 : decode cX12_item 26 = .ok (.goto 19, 3) := by decide +kernel
theorem dX12_item_45 : decode cX12_item 45 = .ok (.lreturn, 1) := by decide +kernel
theorem dX12_read_0 : decode cX12_read 0 = .ok (.aload_n 0, 1) := by decide +kernel
theorem dX12_read_1 : decode cX12_read 1 = .ok (.iconst 0, 1) := by decide +kernel
theorem dX12_read_2 : decode cX12_read 2 = .ok (.putfield 85, 3) := by decide +kernel
theorem dX12_read_5 : decode cX12_read 5 = .ok (.aload_n 0, 1) := by decide +kernel
theorem dX12_read_6 : decode cX12_read 6 = .ok (.iconst 0, 1) := by decide +kernel
theorem dX12_read_7 : decode cX12_read 7 = .ok (.putfield 240, 3) := by decide +kernel
theorem dX12_read_10 : decode cX12_read 10 = .ok (.iload_n 1, 1) := by decide +kernel
theorem dX12_read_11 : decode cX12_read 11 = .ok (.i2l, 1) := by decide +kernel
theorem dX12_read_12 : decode cX12_read 12 = .ok (.lconst 0, 1) := by decide +kernel
theorem dX12_read_13 : decode cX12_read 13 = .ok (.ldc2_w 243, 3) := by decide +kernel
