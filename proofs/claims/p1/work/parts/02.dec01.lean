theorem dX11_place_36 : decode cX11_place 36 = .ok (.getfield 94, 3) := by decide +kernel
theorem dX11_place_39 : decode cX11_place 39 = .ok (.iconst 1, 1) := by decide +kernel
theorem dX11_place_40 : decode cX11_place 40 = .ok (.isub, 1) := by decide +kernel
theorem dX11_place_41 : decode cX11_place 41 = .ok (.ireturn, 1) := by decide +kernel
theorem dX11_line_0 : decode cX11_line 0 = .ok (.aload_n 0, 1) := by decide +kernel
theorem dX11_line_1 : decode cX11_line 1 = .ok (.iload_n 1, 1) := by decide +kernel
theorem dX11_line_2 : decode cX11_line 2 = .ok (.i2l, 1) := by decide +kernel
theorem dX11_line_3 : decode cX11_line 3 = .ok (.iload_n 2, 1) := by decide +kernel
theorem dX11_line_4 : decode cX11_line 4 = .ok (.i2l, 1) := by decide +kernel
theorem dX11_line_5 : decode cX11_line 5 = .ok (.iload_n 3, 1) := by decide +kernel
theorem dX11_line_6 : decode cX11_line 6 = .ok (.i2l, 1) := by decide +kernel
theorem dX11_line_7 : decode cX11_line 7 = .ok (.iload 4, 2) := by decide +kernel
theorem dX11_line_9 : decode cX11_line 9 = .ok (.i2l, 1) := by decide +kernel
theorem dX11_line_10 : decode cX11_line 10 = .ok (.iload 5, 2) := by decide +kernel
theorem dX11_line_12 : decode cX11_line 12 = .ok (.i2l, 1) := by decide +kernel
theorem dX11_line_13 : decode cX11_line 13 = .ok (.invokevirtual 100, 3) := by decide +kernel
theorem dX11_line_16 : decode cX11_line 16 = .ok (.istore 6, 2) := by decide +kernel
theorem dX11_line_18 : decode cX11_line 18 = .ok (.iload 6, 2) := by decide +kernel
theorem dX11_line_20 : decode cX11_line 20 = .ok (.ifCond .eq 6, 3) := by decide +kernel
theorem dX11_line_23 : decode cX11_line 23 = .ok (.iload 6, 2) := by decide +kernel
theorem dX11_line_25 : decode cX11_line 25 = .ok (.ireturn, 1) := by decide +kernel
theorem dX11_widen_0 : decode cX11_widen 0 = .ok (.aload_n 0, 1) := by decide +kernel
theorem dX11_widen_1 : decode cX11_widen 1 = .ok (.getfield 31, 3) := by decide +kernel
theorem dX11_widen_4 : decode cX11_widen 4 = .ok (.iload_n 1, 1) := by decide +kernel
theorem dX11_widen_5 : decode cX11_widen 5 = .ok (.invokevirtual 112, 3) := by decide +kernel
theorem dX11_widen_8 : decode cX11_widen 8 = .ok (.ifCond .eq 14, 3) := by decide +kernel
theorem dX11_widen_22 : decode cX11_widen 22 = .ok (.iconst (-1), 1) := by decide +kernel
theorem dX11_widen_23 : decode cX11_widen 23 = .ok (.ireturn, 1) := by decide +kernel
theorem dX11_width_0 : decode cX11_width 0 = .ok (.aload_n 0, 1) := by decide +kernel
theorem dX11_width_1 : decode cX11_width 1 = .ok (.getfield 31, 3) := by decide +kernel
theorem dX11_width_4 : decode cX11_width 4 = .ok (.iload_n 1, 1) := by decide +kernel
theorem dX11_width_5 : decode cX11_width 5 = .ok (.invokevirtual 112, 3) := by decide +kernel
theorem dX11_width_8 : decode cX11_width 8 = .ok (.ifCond .eq 14, 3) := by decide +kernel
theorem dX11_width_22 : decode cX11_width 22 = .ok (.iconst (-1), 1) := by decide +kernel
theorem dX11_width_23 : decode cX11_width 23 = .ok (.ireturn, 1) := by decide +kernel
theorem dX11_merge_0 : decode cX11_merge 0 = .ok (.aload_n 0, 1) := by decide +kernel
theorem dX11_merge_1 : decode cX11_merge 1 = .ok (.getfield 31, 3) := by decide +kernel
theorem dX11_merge_4 : decode cX11_merge 4 = .ok (.iload_n 1, 1) := by decide +kernel
theorem dX11_merge_5 : decode cX11_merge 5 = .ok (.i2l, 1) := by decide +kernel
theorem dX11_merge_6 : decode cX11_merge 6 = .ok (.iload_n 2, 1) := by decide +kernel
theorem dX11_merge_7 : decode cX11_merge 7 = .ok (.i2l, 1) := by decide +kernel
theorem dX11_merge_8 : decode cX11_merge 8 = .ok (.invokevirtual 135, 3) := by decide +kernel
theorem dX11_merge_11 : decode cX11_merge 11 = .ok (.ifCond .ne 5, 3) := by decide +kernel
theorem dX11_merge_14 : decode cX11_merge 14 = .ok (.iconst (-1), 1) := by decide +kernel
theorem dX11_merge_15 : decode cX11_merge 15 = .ok (.ireturn, 1) := by decide +kernel
theorem dX11_undo_0 : decode cX11_undo 0 = .ok (.aload_n 0, 1) := by decide +kernel
theorem dX11_undo_1 : decode cX11_undo 1 = .ok (.getfield 84, 3) := by decide +kernel
theorem dX11_undo_4 : decode cX11_undo 4 = .ok (.ifCond .ne 6, 3) := by decide +kernel
theorem dX11_undo_7 : decode cX11_undo 7 = .ok (.bipush (-2), 2) := by decide +kernel
theorem dX11_undo_9 : decode cX11_undo 9 = .ok (.ireturn, 1) := by decide +kernel
theorem dX11_told_0 : decode cX11_told 0 = .ok (.aload_n 0, 1) := by decide +kernel
theorem dX11_told_1 : decode cX11_told 1 = .ok (.getfield 31, 3) := by decide +kernel
theorem dX11_told_4 : decode cX11_told 4 = .ok (.iload_n 1, 1) := by decide +kernel
theorem dX11_told_5 : decode cX11_told 5 = .ok (.invokevirtual 112, 3) := by decide +kernel
theorem dX11_told_8 : decode cX11_told 8 = .ok (.ifCond .ne 5, 3) := by decide +kernel
theorem dX11_told_11 : decode cX11_told 11 = .ok (.iconst (-1), 1) := by decide +kernel
theorem dX11_told_12 : decode cX11_told 12 = .ok (.ireturn, 1) := by decide +kernel
theorem dX11_ask_0 : decode cX11_ask 0 = .ok (.aload_n 0, 1) := by decide +kernel
theorem dX11_ask_1 : decode cX11_ask 1 = .ok (.getfield 31, 3) := by decide +kernel
theorem dX11_ask_4 : decode cX11_ask 4 = .ok (.iload_n 1, 1) := by decide +kernel
theorem dX11_ask_5 : decode cX11_ask 5 = .ok (.invokevirtual 112, 3) := by decide +kernel
theorem dX11_ask_8 : decode cX11_ask 8 = .ok (.ifCond .eq 12, 3) := by decide +kernel
theorem dX11_ask_20 : decode cX11_ask 20 = .ok (.iconst (-1), 1) := by decide +kernel
theorem dX11_ask_21 : decode cX11_ask 21 = .ok (.ireturn, 1) := by decide +kernel
theorem dX11_most_0 : decode cX11_most 0 = .ok (.aload_n 0, 1) := by decide +kernel
theorem dX11_most_1 : decode cX11_most 1 = .ok (.getfield 31, 3) := by decide +kernel
theorem dX11_most_4 : decode cX11_most 4 = .ok (.iload_n 1, 1) := by decide +kernel
theorem dX11_most_5 : decode cX11_most 5 = .ok (.i2l, 1) := by decide +kernel
theorem dX11_most_6 : decode cX11_most 6 = .ok (.iload_n 2, 1) := by decide +kernel
theorem dX11_most_7 : decode cX11_most 7 = .ok (.i2l, 1) := by decide +kernel
theorem dX11_most_8 : decode cX11_most 8 = .ok (.invokevirtual 135, 3) := by decide +kernel
theorem dX11_most_11 : decode cX11_most 11 = .ok (.ifCond .ne 5, 3) := by decide +kernel
theorem dX11_most_14 : decode cX11_most 14 = .ok (.iconst (-1), 1) := by decide +kernel
theorem dX11_most_15 : decode cX11_most 15 = .ok (.ireturn, 1) := by decide +kernel
theorem dX11_flow_0 : decode cX11_flow 0 = .ok (.aload_n 0, 1) := by decide +kernel
theorem dX11_flow_1 : decode cX11_flow 1 = .ok (.getfield 31, 3) := by decide +kernel
theorem dX11_flow_4 : decode cX11_flow 4 = .ok (.iload_n 1, 1) := by decide +kernel
theorem dX11_flow_5 : decode cX11_flow 5 = .ok (.i2l, 1) := by decide +kernel
theorem dX11_flow_6 : decode cX11_flow 6 = .ok (.iload_n 2, 1) := by decide +kernel
theorem dX11_flow_7 : decode cX11_flow 7 = .ok (.i2l, 1) := by decide +kernel
theorem dX11_flow_8 : decode cX11_flow 8 = .ok (.invokevirtual 135, 3) := by decide +kernel
theorem dX11_flow_11 : decode cX11_flow 11 = .ok (.ifCond .eq 25, 3) := by decide +kernel
theorem dX11_flow_36 : decode cX11_flow 36 = .ok (.ldc 172, 2) := by decide +kernel
theorem dX11_flow_38 : decode cX11_flow 38 = .ok (.ireturn, 1) := by decide +kernel
theorem dX11_cut_0 : decode cX11_cut 0 = .ok (.aload_n 0, 1) := by decide +kernel
theorem dX11_cut_1 : decode cX11_cut 1 = .ok (.getfield 31, 3) := by decide +kernel
theorem dX11_cut_4 : decode cX11_cut 4 = .ok (.iload_n 1, 1) := by decide +kernel
theorem dX11_cut_5 : decode cX11_cut 5 = .ok (.i2l, 1) := by decide +kernel
theorem dX11_cut_6 : decode cX11_cut 6 = .ok (.iload_n 2, 1) := by decide +kernel
theorem dX11_cut_7 : decode cX11_cut 7 = .ok (.i2l, 1) := by decide +kernel
theorem dX11_cut_8 : decode cX11_cut 8 = .ok (.invokevirtual 135, 3) := by decide +kernel
theorem dX11_cut_11 : decode cX11_cut 11 = .ok (.ifCond .eq 12, 3) := by decide +kernel
theorem dX11_cut_23 : decode cX11_cut 23 = .ok (.iconst (-1), 1) := by decide +kernel
theorem dX11_cut_24 : decode cX11_cut 24 = .ok (.ireturn, 1) := by decide +kernel
theorem dX11_count_0 : decode cX11_count 0 = .ok (.aload_n 0, 1) := by decide +kernel
theorem dX11_count_1 : decode cX11_count 1 = .ok (.getfield 31, 3) := by decide +kernel
theorem dX11_count_4 : decode cX11_count 4 = .ok (.iload_n 1, 1) := by decide +kernel
theorem dX11_count_5 : decode cX11_count 5 = .ok (.i2l, 1) := by decide +kernel
theorem dX11_count_6 : decode cX11_count 6 = .ok (.iload_n 2, 1) := by decide +kernel
theorem dX11_count_7 : decode cX11_count 7 = .ok (.i2l, 1) := by decide +kernel
theorem dX11_count_8 : decode cX11_count 8 = .ok (.invokevirtual 135, 3) := by decide +kernel
theorem dX11_count_11 : decode cX11_count 11 = .ok (.ifCond .ne 5, 3) := by decide +kernel
theorem dX11_count_14 : decode cX11_count 14 = .ok (.iconst (-1), 1) := by decide +kernel
theorem dX11_count_15 : decode cX11_count 15 = .ok (.ireturn, 1) := by decide +kernel
theorem dX11_next_0 : decode cX11_next 0 = .ok (.aload_n 0, 1) := by decide +kernel
theorem dX11_next_1 : decode cX11_next 1 = .ok (.getfield 31, 3) := by decide +kernel
theorem dX11_next_4 : decode cX11_next 4 = .ok (.iload_n 1, 1) := by decide +kernel
theorem dX11_next_5 : decode cX11_next 5 = .ok (.i2l, 1) := by decide +kernel
theorem dX11_next_6 : decode cX11_next 6 = .ok (.iload_n 2, 1) := by decide +kernel
theorem dX11_next_7 : decode cX11_next 7 = .ok (.i2l, 1) := by decide +kernel
theorem dX11_next_8 : decode cX11_next 8 = .ok (.invokevirtual 135, 3) := by decide +kernel
theorem dX11_next_11 : decode cX11_next 11 = .ok (.ifCond .eq 7, 3) := by decide +kernel
theorem dX11_next_18 : decode cX11_next 18 = .ok (.iconst (-1), 1) := by decide +kernel
theorem dX11_next_19 : decode cX11_next 19 = .ok (.ireturn, 1) := by decide +kernel
theorem dX11_size_0 : decode cX11_size 0 = .ok (.aload_n 0, 1) := by decide +kernel
theorem dX11_size_1 : decode cX11_size 1 = .ok (.getfield 31, 3) := by decide +kernel
theorem dX11_size_4 : decode cX11_size 4 = .ok (.iload_n 1, 1) := by decide +kernel
theorem dX11_size_5 : decode cX11_size 5 = .ok (.i2l, 1) := by decide +kernel
theorem dX11_size_6 : decode cX11_size 6 = .ok (.iload_n 2, 1) := by decide +kernel
theorem dX11_size_7 : decode cX11_size 7 = .ok (.i2l, 1) := by decide +kernel
theorem dX11_size_8 : decode cX11_size 8 = .ok (.invokevirtual 135, 3) := by decide +kernel
theorem dX11_size_11 : decode cX11_size 11 = .ok (.ifCond .ne 5, 3) := by decide +kernel
theorem dX11_size_14 : decode cX11_size 14 = .ok (.iconst (-1), 1) := by decide +kernel
theorem dX11_size_15 : decode cX11_size 15 = .ok (.ireturn, 1) := by decide +kernel
theorem dX11_raise_0 : decode cX11_raise 0 = .ok (.aload_n 0, 1) := by decide +kernel
theorem dX11_raise_1 : decode cX11_raise 1 = .ok (.getfield 31, 3) := by decide +kernel
theorem dX11_raise_4 : decode cX11_raise 4 = .ok (.iload_n 1, 1) := by decide +kernel
theorem dX11_raise_5 : decode cX11_raise 5 = .ok (.i2l, 1) := by decide +kernel
theorem dX11_raise_6 : decode cX11_raise 6 = .ok (.iload_n 2, 1) := by decide +kernel
theorem dX11_raise_7 : decode cX11_raise 7 = .ok (.i2l, 1) := by decide +kernel
theorem dX11_raise_8 : decode cX11_raise 8 = .ok (.invokevirtual 135, 3) := by decide +kernel
theorem dX11_raise_11 : decode cX11_raise 11 = .ok (.ifCond .eq 14, 3) := by decide +kernel
theorem dX11_raise_25 : decode cX11_raise 25 = .ok (.iconst (-1), 1) := by decide +kernel
theorem dX11_raise_26 : decode cX11_raise 26 = .ok (.ireturn, 1) := by decide +kernel
theorem dX11_cheapest_0 : decode cX11_cheapest 0 = .ok (.aload_n 0, 1) := by decide +kernel
theorem dX11_cheapest_1 : decode cX11_cheapest 1 = .ok (.getfield 31, 3) := by decide +kernel
theorem dX11_cheapest_4 : decode cX11_cheapest 4 = .ok (.iload_n 1, 1) := by decide +kernel
theorem dX11_cheapest_5 : decode cX11_cheapest 5 = .ok (.i2l, 1) := by decide +kernel
theorem dX11_cheapest_6 : decode cX11_cheapest 6 = .ok (.iload_n 2, 1) := by decide +kernel
theorem dX11_cheapest_7 : decode cX11_cheapest 7 = .ok (.i2l, 1) := by decide +kernel
theorem dX11_cheapest_8 : decode cX11_cheapest 8 = .ok (.invokevirtual 135, 3) := by decide +kernel
theorem dX11_cheapest_11 : decode cX11_cheapest 11 = .ok (.ifCond .eq 14, 3) := by decide +kernel
theorem dX11_cheapest_25 : decode cX11_cheapest 25 = .ok (.iconst (-1), 1) := by decide +kernel
theorem dX11_cheapest_26 : decode cX11_cheapest 26 = .ok (.ireturn, 1) := by decide +kernel
theorem dX11_tree_0 : decode cX11_tree 0 = .ok (.iload_n 2, 1) := by decide +kernel
theorem dX11_tree_1 : decode cX11_tree 1 = .ok (.ifCond .lt 8, 3) := by decide +kernel
theorem dX11_tree_4 : decode cX11_tree 4 = .ok (.iload_n 2, 1) := by decide +kernel
theorem dX11_tree_5 : decode cX11_tree 5 = .ok (.iconst 1, 1) := by decide +kernel
theorem dX11_tree_6 : decode cX11_tree 6 = .ok (.if_icmp .le 5, 3) := by decide +kernel
theorem dX11_tree_9 : decode cX11_tree 9 = .ok (.iconst (-1), 1) := by decide +kernel
theorem dX11_tree_10 : decode cX11_tree 10 = .ok (.ireturn, 1) := by decide +kernel
theorem dX11_tree_11 : decode cX11_tree 11 = .ok (.aload_n 0, 1) := by decide +kernel
theorem dX11_tree_12 : decode cX11_tree 12 = .ok (.getfield 31, 3) := by decide +kernel
theorem dX11_tree_15 : decode cX11_tree 15 = .ok (.invokevirtual 204, 3) := by decide +kernel
theorem dX11_tree_18 : decode cX11_tree 18 = .ok (.ifCond .ne 6, 3) := by decide +kernel
theorem dX11_tree_21 : decode cX11_tree 21 = .ok (.bipush (-2), 2) := by decide +kernel
theorem dX11_tree_23 : decode cX11_tree 23 = .ok (.ireturn, 1) := by decide +kernel
theorem dX11_between_0 : decode cX11_between 0 = .ok (.aload_n 0, 1) := by decide +kernel
theorem dX11_between_1 : decode cX11_between 1 = .ok (.getfield 31, 3) := by decide +kernel
theorem dX11_between_4 : decode cX11_between 4 = .ok (.invokevirtual 204, 3) := by decide +kernel
theorem dX11_between_7 : decode cX11_between 7 = .ok (.ifCond .ne 6, 3) := by decide +kernel
theorem dX11_between_10 : decode cX11_between 10 = .ok (.bipush (-2), 2) := by decide +kernel
theorem dX11_between_12 : decode cX11_between 12 = .ok (.ireturn, 1) := by decide +kernel
theorem dX11_least_0 : decode cX11_least 0 = .ok (.aload_n 0, 1) := by decide +kernel
theorem dX11_least_1 : decode cX11_least 1 = .ok (.getfield 31, 3) := by decide +kernel
theorem dX11_least_4 : decode cX11_least 4 = .ok (.invokevirtual 204, 3) := by decide +kernel
theorem dX11_least_7 : decode cX11_least 7 = .ok (.ifCond .ne 6, 3) := by decide +kernel
theorem dX11_least_10 : decode cX11_least 10 = .ok (.bipush (-2), 2) := by decide +kernel
theorem dX11_least_12 : decode cX11_least 12 = .ok (.ireturn, 1) := by decide +kernel
theorem dX11_cuts_0 : decode cX11_cuts 0 = .ok (.aload_n 0, 1) := by decide +kernel
theorem dX11_cuts_1 : decode cX11_cuts 1 = .ok (.getfield 31, 3) := by decide +kernel
theorem dX11_cuts_4 : decode cX11_cuts 4 = .ok (.invokevirtual 204, 3) := by decide +kernel
theorem dX11_cuts_7 : decode cX11_cuts 7 = .ok (.ifCond .ne 6, 3) := by decide +kernel
theorem dX11_cuts_10 : decode cX11_cuts 10 = .ok (.bipush (-2), 2) := by decide +kernel
theorem dX11_cuts_12 : decode cX11_cuts 12 = .ok (.ireturn, 1) := by decide +kernel
theorem dX11_cutAt_0 : decode cX11_cutAt 0 = .ok (.iload_n 1, 1) := by decide +kernel
theorem dX11_cutAt_1 : decode cX11_cutAt 1 = .ok (.ifCond .ge 5, 3) := by decide +kernel
theorem dX11_cutAt_4 : decode cX11_cutAt 4 = .ok (.iconst (-1), 1) := by decide +kernel
theorem dX11_cutAt_5 : decode cX11_cutAt 5 = .ok (.ireturn, 1) := by decide +kernel
theorem dX11_cutAt_6 : decode cX11_cutAt 6 = .ok (.aload_n 0, 1) := by decide +kernel
theorem dX11_cutAt_7 : decode cX11_cutAt 7 = .ok (.getfield 31, 3) := by decide +kernel
theorem dX11_cutAt_10 : decode cX11_cutAt 10 = .ok (.invokevirtual 204, 3) := by decide +kernel
theorem dX11_cutAt_13 : decode cX11_cutAt 13 = .ok (.ifCond .ne 6, 3) := by decide +kernel
theorem dX11_cutAt_16 : decode cX11_cutAt 16 = .ok (.bipush (-2), 2) := by decide +kernel
theorem dX11_cutAt_18 : decode cX11_cutAt 18 = .ok (.ireturn, 1) := by decide +kernel
theorem dX11_weak_0 : decode cX11_weak 0 = .ok (.aload_n 0, 1) := by decide +kernel
theorem dX11_weak_1 : decode cX11_weak 1 = .ok (.getfield 31, 3) := by decide +kernel
theorem dX11_weak_4 : decode cX11_weak 4 = .ok (.iload_n 1, 1) := by decide +kernel
theorem dX11_weak_5 : decode cX11_weak 5 = .ok (.invokevirtual 112, 3) := by decide +kernel
theorem dX11_weak_8 : decode cX11_weak 8 = .ok (.ifCond .ne 5, 3) := by decide +kernel
theorem dX11_weak_11 : decode cX11_weak 11 = .ok (.iconst (-1), 1) := by decide +kernel
theorem dX11_weak_12 : decode cX11_weak 12 = .ok (.ireturn, 1) := by decide +kernel
theorem dX11_part_0 : decode cX11_part 0 = .ok (.iload_n 1, 1) := by decide +kernel
theorem dX11_part_1 : decode cX11_part 1 = .ok (.ifCond .ge 5, 3) := by decide +kernel
theorem dX11_part_4 : decode cX11_part 4 = .ok (.iconst (-1), 1) := by decide +kernel
theorem dX11_part_5 : decode cX11_part 5 = .ok (.ireturn, 1) := by decide +kernel
theorem dX11_part_6 : decode cX11_part 6 = .ok (.aload_n 0, 1) := by decide +kernel
theorem dX11_part_7 : decode cX11_part 7 = .ok (.getfield 31, 3) := by decide +kernel
theorem dX11_part_10 : decode cX11_part 10 = .ok (.invokevirtual 204, 3) := by decide +kernel
theorem dX11_part_13 : decode cX11_part 13 = .ok (.ifCond .ne 6, 3) := by decide +kernel
theorem dX11_part_16 : decode cX11_part 16 = .ok (.bipush (-2), 2) := by decide +kernel
theorem dX11_part_18 : decode cX11_part 18 = .ok (.ireturn, 1) := by decide +kernel
theorem dX11_dense_0 : decode cX11_dense 0 = .ok (.iload_n 1, 1) := by decide +kernel
theorem dX11_dense_1 : decode cX11_dense 1 = .ok (.ifCond .lt 8, 3) := by decide +kernel
theorem dX11_dense_4 : decode cX11_dense 4 = .ok (.iload_n 1, 1) := by decide +kernel
theorem dX11_dense_5 : decode cX11_dense 5 = .ok (.iconst 2, 1) := by decide +kernel
theorem dX11_dense_6 : decode cX11_dense 6 = .ok (.if_icmp .le 5, 3) := by decide +kernel
theorem dX11_dense_9 : decode cX11_dense 9 = .ok (.iconst (-1), 1) := by decide +kernel
theorem dX11_dense_10 : decode cX11_dense 10 = .ok (.ireturn, 1) := by decide +kernel
theorem dX11_dense_11 : decode cX11_dense 11 = .ok (.aload_n 0, 1) := by decide +kernel
theorem dX11_dense_12 : decode cX11_dense 12 = .ok (.getfield 31, 3) := by decide +kernel
theorem dX11_dense_15 : decode cX11_dense 15 = .ok (.invokevirtual 204, 3) := by decide +kernel
theorem dX11_dense_18 : decode cX11_dense 18 = .ok (.ifCond .ne 6, 3) := by decide +kernel
theorem dX11_dense_21 : decode cX11_dense 21 = .ok (.bipush (-2), 2) := by decide +kernel
theorem dX11_dense_23 : decode cX11_dense 23 = .ok (.ireturn, 1) := by decide +kernel
theorem dX11_map_0 : decode cX11_map 0 = .ok (.aload_n 0, 1) := by decide +kernel
theorem dX11_map_1 : decode cX11_map 1 = .ok (.iload_n 1, 1) := by decide +kernel
theorem dX11_map_2 : decode cX11_map 2 = .ok (.iload_n 2, 1) := by decide +kernel
theorem dX11_map_3 : decode cX11_map 3 = .ok (.iload_n 3, 1) := by decide +kernel
theorem dX11_map_4 : decode cX11_map 4 = .ok (.invokestatic 247, 3) := by decide +kernel
theorem dX11_map_7 : decode cX11_map 7 = .ok (.putfield 91, 3) := by decide +kernel
theorem dX11_map_10 : decode cX11_map 10 = .ok (.aload_n 0, 1) := by decide +kernel
theorem dX11_map_11 : decode cX11_map 11 = .ok (.getfield 91, 3) := by decide +kernel
theorem dX11_map_14 : decode cX11_map 14 = .ok (.ifCond .eq 8, 3) := by decide +kernel
theorem dX11_map_17 : decode cX11_map 17 = .ok (.aload_n 0, 1) := by decide +kernel
theorem dX11_map_18 : decode cX11_map 18 = .ok (.getfield 91, 3) := by decide +kernel
theorem dX11_map_21 : decode cX11_map 21 = .ok (.ireturn, 1) := by decide +kernel
theorem dX11_map_22 : decode cX11_map 22 = .ok (.aload_n 0, 1) := by decide +kernel
theorem dX11_map_23 : decode cX11_map 23 = .ok (.getfield 72, 3) := by decide +kernel
theorem dX11_map_26 : decode cX11_map 26 = .ok (.iload_n 1, 1) := by decide +kernel
theorem dX11_map_27 : decode cX11_map 27 = .ok (.aaload, 1) := by decide +kernel
theorem dX11_map_28 : decode cX11_map 28 = .ok (.iload_n 2, 1) := by decide +kernel
theorem dX11_map_29 : decode cX11_map 29 = .ok (.iload_n 3, 1) := by decide +kernel
theorem dX11_map_30 : decode cX11_map 30 = .ok (.invokevirtual 250, 3) := by decide +kernel
theorem dX11_map_33 : decode cX11_map 33 = .ok (.iconst 1, 1) := by decide +kernel
theorem dX11_map_34 : decode cX11_map 34 = .ok (.ireturn, 1) := by decide +kernel
theorem dX11_row_0 : decode cX11_row 0 = .ok (.aload_n 0, 1) := by decide +kernel
theorem dX11_row_1 : decode cX11_row 1 = .ok (.aload_n 0, 1) := by decide +kernel
theorem dX11_row_2 : decode cX11_row 2 = .ok (.iload_n 1, 1) := by decide +kernel
theorem dX11_row_3 : decode cX11_row 3 = .ok (.iload_n 2, 1) := by decide +kernel
theorem dX11_row_4 : decode cX11_row 4 = .ok (.iload_n 3, 1) := by decide +kernel
theorem dX11_row_5 : decode cX11_row 5 = .ok (.invokevirtual 254, 3) := by decide +kernel
theorem dX11_row_8 : decode cX11_row 8 = .ok (.putfield 91, 3) := by decide +kernel
theorem dX11_row_11 : decode cX11_row 11 = .ok (.aload_n 0, 1) := by decide +kernel
theorem dX11_row_12 : decode cX11_row 12 = .ok (.getfield 91, 3) := by decide +kernel
theorem dX11_row_15 : decode cX11_row 15 = .ok (.ifCond .eq 8, 3) := by decide +kernel
theorem dX11_row_18 : decode cX11_row 18 = .ok (.aload_n 0, 1) := by decide +kernel
theorem dX11_row_19 : decode cX11_row 19 = .ok (.getfield 91, 3) := by decide +kernel
theorem dX11_row_22 : decode cX11_row 22 = .ok (.ireturn, 1) := by decide +kernel
theorem dX11_put_0 : decode cX11_put 0 = .ok (.aload_n 0, 1) := by decide +kernel
theorem dX11_put_1 : decode cX11_put 1 = .ok (.aload_n 0, 1) := by decide +kernel
theorem dX11_put_2 : decode cX11_put 2 = .ok (.iload_n 1, 1) := by decide +kernel
theorem dX11_put_3 : decode cX11_put 3 = .ok (.iload_n 2, 1) := by decide +kernel
theorem dX11_put_4 : decode cX11_put 4 = .ok (.iload_n 3, 1) := by decide +kernel
theorem dX11_put_5 : decode cX11_put 5 = .ok (.iload 4, 2) := by decide +kernel
theorem dX11_put_7 : decode cX11_put 7 = .ok (.invokevirtual 260, 3) := by decide +kernel
theorem dX11_put_10 : decode cX11_put 10 = .ok (.putfield 91, 3) := by decide +kernel
theorem dX11_put_13 : decode cX11_put 13 = .ok (.aload_n 0, 1) := by decide +kernel
theorem dX11_put_14 : decode cX11_put 14 = .ok (.getfield 91, 3) := by decide +kernel
theorem dX11_put_17 : decode cX11_put 17 = .ok (.ifCond .eq 8, 3) := by decide +kernel
theorem dX11_put_20 : decode cX11_put 20 = .ok (.aload_n 0, 1) := by decide +kernel
theorem dX11_put_21 : decode cX11_put 21 = .ok (.getfield 91, 3) := by decide +kernel
theorem dX11_put_24 : decode cX11_put 24 = .ok (.ireturn, 1) := by decide +kernel
theorem dX11_copy_0 : decode cX11_copy 0 = .ok (.aload_n 0, 1) := by decide +kernel
theorem dX11_copy_1 : decode cX11_copy 1 = .ok (.iload_n 1, 1) := by decide +kernel
theorem dX11_copy_2 : decode cX11_copy 2 = .ok (.invokestatic 267, 3) := by decide +kernel
theorem dX11_copy_5 : decode cX11_copy 5 = .ok (.ifCond .eq 23, 3) := by decide +kernel
theorem dX11_copy_8 : decode cX11_copy 8 = .ok (.aload_n 0, 1) := by decide +kernel
theorem dX11_copy_9 : decode cX11_copy 9 = .ok (.getfield 72, 3) := by decide +kernel
theorem dX11_copy_12 : decode cX11_copy 12 = .ok (.iload_n 1, 1) := by decide +kernel
theorem dX11_copy_13 : decode cX11_copy 13 = .ok (.aaload, 1) := by decide +kernel
theorem dX11_copy_14 : decode cX11_copy 14 = .ok (.iload_n 2, 1) := by decide +kernel
theorem dX11_copy_15 : decode cX11_copy 15 = .ok (.iload_n 3, 1) := by decide +kernel
theorem dX11_copy_16 : decode cX11_copy 16 = .ok (.iload 4, 2) := by decide +kernel
theorem dX11_copy_18 : decode cX11_copy 18 = .ok (.iload 5, 2) := by decide +kernel
theorem dX11_copy_20 : decode cX11_copy 20 = .ok (.iload 6, 2) := by decide +kernel
theorem dX11_copy_22 : decode cX11_copy 22 = .ok (.invokevirtual 270, 3) := by decide +kernel
theorem dX11_copy_25 : decode cX11_copy 25 = .ok (.goto 4, 3) := by decide +kernel
theorem dX11_copy_28 : decode cX11_copy 28 = .ok (.iconst (-1), 1) := by decide +kernel
theorem dX11_copy_29 : decode cX11_copy 29 = .ok (.putfield 91, 3) := by decide +kernel
theorem dX11_copy_32 : decode cX11_copy 32 = .ok (.aload_n 0, 1) := by decide +kernel
theorem dX11_copy_33 : decode cX11_copy 33 = .ok (.getfield 91, 3) := by decide +kernel
theorem dX11_copy_36 : decode cX11_copy 36 = .ok (.ifCond .eq 8, 3) := by decide +kernel
theorem dX11_copy_39 : decode cX11_copy 39 = .ok (.aload_n 0, 1) := by decide +kernel
theorem dX11_copy_40 : decode cX11_copy 40 = .ok (.getfield 91, 3) := by decide +kernel
theorem dX11_copy_43 : decode cX11_copy 43 = .ok (.ireturn, 1) := by decide +kernel
theorem dX11_item_0 : decode cX11_item 0 = .ok (.aload_n 0, 1) := by decide +kernel
theorem dX11_item_1 : decode cX11_item 1 = .ok (.aload_n 0, 1) := by decide +kernel
theorem dX11_item_2 : decode cX11_item 2 = .ok (.iload_n 1, 1) := by decide +kernel
theorem dX11_item_3 : decode cX11_item 3 = .ok (.iload_n 2, 1) := by decide +kernel
theorem dX11_item_4 : decode cX11_item 4 = .ok (.iload_n 3, 1) := by decide +kernel
theorem dX11_item_5 : decode cX11_item 5 = .ok (.iload 4, 2) := by decide +kernel
theorem dX11_item_7 : decode cX11_item 7 = .ok (.invokevirtual 260, 3) := by decide +kernel
theorem dX11_item_10 : decode cX11_item 10 = .ok (.putfield 91, 3) := by decide +kernel
theorem dX11_item_13 : decode cX11_item 13 = .ok (.aload_n 0, 1) := by decide +kernel
theorem dX11_item_14 : decode cX11_item 14 = .ok (.getfield 91, 3) := by decide +kernel
theorem dX11_item_17 : decode cX11_item 17 = .ok (.ifCond .eq 5, 3) := by decide +kernel
theorem dX11_item_20 : decode cX11_item 20 = .ok (.lconst 0, 1) := by decide +kernel
theorem dX11_item_21 : decode cX11_item 21 = .ok (.lreturn, 1) := by decide +kernel
theorem dX11_read_0 : decode cX11_read 0 = .ok (.iload_n 1, 1) := by decide +kernel
theorem dX11_read_1 : decode cX11_read 1 = .ok (.invokestatic 267, 3) := by decide +kernel
theorem dX11_read_4 : decode cX11_read 4 = .ok (.ifCond .ne 10, 3) := by decide +kernel
theorem dX11_read_7 : decode cX11_read 7 = .ok (.aload_n 0, 1) := by decide +kernel
theorem dX11_read_8 : decode cX11_read 8 = .ok (.iconst (-1), 1) := by decide +kernel
theorem dX11_read_9 : decode cX11_read 9 = .ok (.putfield 91, 3) := by decide +kernel
theorem dX11_read_12 : decode cX11_read 12 = .ok (.iconst (-1), 1) := by decide +kernel
theorem dX11_read_13 : decode cX11_read 13 = .ok (.ireturn, 1) := by decide +kernel
theorem dX11_read_14 : decode cX11_read 14 = .ok (.aload_n 0, 1) := by decide +kernel
theorem dX11_read_15 : decode cX11_read 15 = .ok (.getfield 72, 3) := by decide +kernel
theorem dX11_read_18 : decode cX11_read 18 = .ok (.iload_n 1, 1) := by decide +kernel
theorem dX11_read_19 : decode cX11_read 19 = .ok (.aaload, 1) := by decide +kernel
theorem dX11_read_20 : decode cX11_read 20 = .ok (.astore_n 2, 1) := by decide +kernel
theorem dX11_read_21 : decode cX11_read 21 = .ok (.aload_n 0, 1) := by decide +kernel
theorem dX11_read_22 : decode cX11_read 22 = .ok (.aload_n 2, 1) := by decide +kernel
theorem dX11_read_23 : decode cX11_read 23 = .ok (.invokevirtual 281, 3) := by decide +kernel
theorem dX11_read_26 : decode cX11_read 26 = .ok (.ifCond .eq 7, 3) := by decide +kernel
theorem dX11_read_33 : decode cX11_read 33 = .ok (.bipush (-11), 2) := by decide +kernel
theorem dX11_read_35 : decode cX11_read 35 = .ok (.putfield 91, 3) := by decide +kernel
theorem dX11_read_38 : decode cX11_read 38 = .ok (.iconst 0, 1) := by decide +kernel
theorem dX11_read_39 : decode cX11_read 39 = .ok (.istore_n 3, 1) := by decide +kernel
theorem dX11_read_40 : decode cX11_read 40 = .ok (.iconst 0, 1) := by decide +kernel
theorem dX11_read_41 : decode cX11_read 41 = .ok (.istore 4, 2) := by decide +kernel
theorem dX11_read_43 : decode cX11_read 43 = .ok (.iload 4, 2) := by decide +kernel
theorem dX11_read_45 : decode cX11_read 45 = .ok (.aload_n 2, 1) := by decide +kernel
theorem dX11_read_46 : decode cX11_read 46 = .ok (.getfield 284, 3) := by decide +kernel
theorem dX11_read_49 : decode cX11_read 49 = .ok (.if_icmp .ge 85, 3) := by decide +kernel
theorem dX11_read_134 : decode cX11_read 134 = .ok (.iload_n 3, 1) := by decide +kernel
theorem dX11_read_135 : decode cX11_read 135 = .ok (.ireturn, 1) := by decide +kernel
theorem dX11_about_0 : decode cX11_about 0 = .ok (.iload_n 1, 1) := by decide +kernel
theorem dX11_about_1 : decode cX11_about 1 = .ok (.tableswitch 80 0 4 #[35, 43, 51, 59, 64], 35) := by decide +kernel
theorem dX11_about_36 : decode cX11_about 36 = .ok (.aload_n 0, 1) := by decide +kernel
theorem dX11_about_37 : decode cX11_about 37 = .ok (.getfield 31, 3) := by decide +kernel
theorem dX11_about_40 : decode cX11_about 40 = .ok (.getfield 94, 3) := by decide +kernel
theorem dX11_about_43 : decode cX11_about 43 = .ok (.ireturn, 1) := by decide +kernel
theorem dX11_about_44 : decode cX11_about 44 = .ok (.aload_n 0, 1) := by decide +kernel
theorem dX11_about_45 : decode cX11_about 45 = .ok (.getfield 31, 3) := by decide +kernel
theorem dX11_about_48 : decode cX11_about 48 = .ok (.getfield 294, 3) := by decide +kernel
theorem dX11_about_51 : decode cX11_about 51 = .ok (.ireturn, 1) := by decide +kernel
theorem dX11_about_52 : decode cX11_about 52 = .ok (.aload_n 0, 1) := by decide +kernel
theorem dX11_about_53 : decode cX11_about 53 = .ok (.getfield 31, 3) := by decide +kernel
theorem dX11_about_56 : decode cX11_about 56 = .ok (.invokevirtual 297, 3) := by decide +kernel
theorem dX11_about_59 : decode cX11_about 59 = .ok (.ireturn, 1) := by decide +kernel
theorem dX11_about_60 : decode cX11_about 60 = .ok (.aload_n 0, 1) := by decide +kernel
theorem dX11_about_61 : decode cX11_about 61 = .ok (.getfield 84, 3) := by decide +kernel
theorem dX11_about_64 : decode cX11_about 64 = .ok (.ireturn, 1) := by decide +kernel
theorem dX11_about_65 : decode cX11_about 65 = .ok (.aload_n 0, 1) := by decide +kernel
theorem dX11_about_66 : decode cX11_about 66 = .ok (.getfield 31, 3) := by decide +kernel
theorem dX11_about_69 : decode cX11_about 69 = .ok (.invokevirtual 204, 3) := by decide +kernel
theorem dX11_about_72 : decode cX11_about 72 = .ok (.ifCond .eq 7, 3) := by decide +kernel
theorem dX11_about_79 : decode cX11_about 79 = .ok (.iconst 0, 1) := by decide +kernel
theorem dX11_about_80 : decode cX11_about 80 = .ok (.ireturn, 1) := by decide +kernel
theorem dX11_about_81 : decode cX11_about 81 = .ok (.iconst (-1), 1) := by decide +kernel
theorem dX11_about_82 : decode cX11_about 82 = .ok (.ireturn, 1) := by decide +kernel
theorem dX11_trace_0 : decode cX11_trace 0 = .ok (.aload_n 0, 1) := by decide +kernel
theorem dX11_trace_1 : decode cX11_trace 1 = .ok (.getfield 87, 3) := by decide +kernel
theorem dX11_trace_4 : decode cX11_trace 4 = .ok (.lreturn, 1) := by decide +kernel
theorem dX11_status_0 : decode cX11_status 0 = .ok (.aload_n 0, 1) := by decide +kernel
theorem dX11_status_1 : decode cX11_status 1 = .ok (.getfield 91, 3) := by decide +kernel
theorem dX11_status_4 : decode cX11_status 4 = .ok (.ireturn, 1) := by decide +kernel
theorem dX11_remember_0 : decode cX11_remember 0 = .ok (.aload_n 0, 1) := by decide +kernel
theorem dX11_remember_1 : decode cX11_remember 1 = .ok (.getfield 80, 3) := by decide +kernel
theorem dX11_remember_4 : decode cX11_remember 4 = .ok (.aload_n 0, 1) := by decide +kernel
theorem dX11_remember_5 : decode cX11_remember 5 = .ok (.getfield 84, 3) := by decide +kernel
theorem dX11_remember_8 : decode cX11_remember 8 = .ok (.iadd, 1) := by decide +kernel
theorem dX11_remember_9 : decode cX11_remember 9 = .ok (.bipush 30, 2) := by decide +kernel
theorem dX11_remember_11 : decode cX11_remember 11 = .ok (.irem, 1) := by decide +kernel
theorem dX11_remember_12 : decode cX11_remember 12 = .ok (.istore_n 1, 1) := by decide +kernel
theorem dX11_remember_13 : decode cX11_remember 13 = .ok (.aload_n 0, 1) := by decide +kernel
theorem dX11_remember_14 : decode cX11_remember 14 = .ok (.getfield 84, 3) := by decide +kernel
theorem dX11_remember_17 : decode cX11_remember 17 = .ok (.bipush 30, 2) := by decide +kernel
theorem dX11_remember_19 : decode cX11_remember 19 = .ok (.if_icmp .ge 16, 3) := by decide +kernel
theorem dX11_remember_22 : decode cX11_remember 22 = .ok (.aload_n 0, 1) := by decide +kernel
theorem dX11_remember_23 : decode cX11_remember 23 = .ok (.dup, 1) := by decide +kernel
theorem dX11_remember_24 : decode cX11_remember 24 = .ok (.getfield 84, 3) := by decide +kernel
theorem dX11_remember_27 : decode cX11_remember 27 = .ok (.iconst 1, 1) := by decide +kernel
theorem dX11_remember_28 : decode cX11_remember 28 = .ok (.iadd, 1) := by decide +kernel
theorem dX11_remember_29 : decode cX11_remember 29 = .ok (.putfield 84, 3) := by decide +kernel
theorem dX11_remember_32 : decode cX11_remember 32 = .ok (.goto 16, 3) := by decide +kernel
theorem dX11_remember_48 : decode cX11_remember 48 = .ok (.aload_n 0, 1) := by decide +kernel
theorem dX11_remember_49 : decode cX11_remember 49 = .ok (.getfield 76, 3) := by decide +kernel
theorem dX11_remember_52 : decode cX11_remember 52 = .ok (.iload_n 1, 1) := by decide +kernel
theorem dX11_remember_53 : decode cX11_remember 53 = .ok (.aaload, 1) := by decide +kernel
theorem dX11_remember_54 : decode cX11_remember 54 = .ok (.ifnonnull 16, 3) := by decide +kernel
theorem dX11_remember_57 : decode cX11_remember 57 = .ok (.aload_n 0, 1) := by decide +kernel
theorem dX11_remember_58 : decode cX11_remember 58 = .ok (.getfield 76, 3) := by decide +kernel
theorem dX11_remember_61 : decode cX11_remember 61 = .ok (.iload_n 1, 1) := by decide +kernel
theorem dX11_remember_62 : decode cX11_remember 62 = .ok (.new 28, 3) := by decide +kernel
theorem dX11_remember_65 : decode cX11_remember 65 = .ok (.dup, 1) := by decide +kernel
theorem dX11_remember_66 : decode cX11_remember 66 = .ok (.invokespecial 30, 3) := by decide +kernel
theorem dX11_remember_69 : decode cX11_remember 69 = .ok (.aastore, 1) := by decide +kernel
theorem dX11_remember_70 : decode cX11_remember 70 = .ok (.aload_n 0, 1) := by decide +kernel
theorem dX11_remember_71 : decode cX11_remember 71 = .ok (.getfield 76, 3) := by decide +kernel
theorem dX11_remember_74 : decode cX11_remember 74 = .ok (.iload_n 1, 1) := by decide +kernel
theorem dX11_remember_75 : decode cX11_remember 75 = .ok (.aaload, 1) := by decide +kernel
theorem dX11_remember_76 : decode cX11_remember 76 = .ok (.aload_n 0, 1) := by decide +kernel
theorem dX11_remember_77 : decode cX11_remember 77 = .ok (.getfield 31, 3) := by decide +kernel
theorem dX11_remember_80 : decode cX11_remember 80 = .ok (.invokevirtual 151, 3) := by decide +kernel
theorem dX11_remember_83 : decode cX11_remember 83 = .ok (.return_, 1) := by decide +kernel
theorem dX11_lineRefusal_0 : decode cX11_lineRefusal 0 = .ok (.lload_n 1, 1) := by decide +kernel
theorem dX11_lineRefusal_1 : decode cX11_lineRefusal 1 = .ok (.lconst 0, 1) := by decide +kernel
