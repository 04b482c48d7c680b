set_option maxRecDepth 20000 in
theorem ggX2_init_X6_init : GoodIn wsX2_init wsX6_init := goodIn_r _ [3, 4, 5, 6] (by decide +kernel) (by decide +kernel)
set_option maxRecDepth 20000 in
theorem gX2_init_X6_init_n1 : GoodIn wsX2_init (wsX6_init) := ggX2_init_X6_init
set_option maxRecDepth 20000 in
theorem ggX3_hasPair_X3_hasPlace : GoodIn wsX3_hasPair wsX3_hasPlace := goodIn_r _ [5, 6, 7, 8, 9, 10, 11, 12, 13] (by decide +kernel) (by decide +kernel)
set_option maxRecDepth 20000 in
theorem gX3_hasPair_X3_hasPlace : GoodIn wsX3_hasPair (wsV RX3 34 RX3 yX3_hasPlace wsX3_hasPlace) := goodIn_app (goodIn_of _ (by decide +kernel)) ggX3_hasPair_X3_hasPlace
set_option maxRecDepth 20000 in
theorem ggX4_begin_J7_fill_53178 : GoodIn wsX4_begin wsJ7_fill_53178 := goodIn_r _ [7] (by decide +kernel) (by decide +kernel)
set_option maxRecDepth 20000 in
theorem gX4_begin_J7_fill_53178 : GoodIn wsX4_begin (va_wsS RX4 26 yJ7_fill_53178 wsJ7_fill_53178) := goodIn_app (goodIn_of _ (by decide +kernel)) ggX4_begin_J7_fill_53178
set_option maxRecDepth 20000 in
theorem ggX4_moveRefusal_X4_isThere : GoodIn wsX4_moveRefusal wsX4_isThere := goodIn_r _ [6, 7, 16, 17, 18, 19] (by decide +kernel) (by decide +kernel)
set_option maxRecDepth 20000 in
theorem gX4_moveRefusal_X4_isThere : GoodIn wsX4_moveRefusal (wsV RX4 36 RX4 yX4_isThere wsX4_isThere) := goodIn_app (goodIn_of _ (by decide +kernel)) ggX4_moveRefusal_X4_isThere
set_option maxRecDepth 20000 in
theorem ggX5_init_X6_init : GoodIn wsX5_init wsX6_init := goodIn_r _ [3, 4, 5, 6] (by decide +kernel) (by decide +kernel)
set_option maxRecDepth 20000 in
theorem gX5_init_X6_init_n1 : GoodIn wsX5_init (wsX6_init) := ggX5_init_X6_init
set_option maxRecDepth 20000 in
theorem ggX8_init_X2_init : GoodIn wsX8_init wsX2_init := goodIn_r _ [3, 4, 5, 6, 7, 8, 9] (by decide +kernel) (by decide +kernel)
set_option maxRecDepth 20000 in
theorem gX8_init_X2_init_n1 : GoodIn wsX8_init (wsX2_init) := ggX8_init_X2_init
set_option maxRecDepth 20000 in
theorem ggX9_init_X6_init : GoodIn wsX9_init wsX6_init := goodIn_r _ [3, 4, 5, 6] (by decide +kernel) (by decide +kernel)
set_option maxRecDepth 20000 in
theorem gX9_init_X6_init_n3 : GoodIn wsX9_init (wsX6_init) := ggX9_init_X6_init
set_option maxRecDepth 20000 in
theorem ggX11_init_X6_init : GoodIn wsX11_init wsX6_init := goodIn_r _ [50, 51, 2, 3] (by decide +kernel) (by decide +kernel)
set_option maxRecDepth 20000 in
theorem gX11_init_X6_init_n9 : GoodIn wsX11_init (wsX6_init) := ggX11_init_X6_init
set_option maxRecDepth 20000 in
theorem ggX11_init_X5_init : GoodIn wsX11_init wsX5_init := goodIn_r _ [53, 49, 6, 50, 51, 2, 3] (by decide +kernel) (by decide +kernel)
set_option maxRecDepth 20000 in
theorem gX11_init_X5_init_n12 : GoodIn wsX11_init (wsX5_init) := ggX11_init_X5_init
set_option maxRecDepth 20000 in
theorem ggX11_init_X9_init : GoodIn wsX11_init wsX9_init := goodIn_r _ [55, 49, 6, 50, 51, 2, 3] (by decide +kernel) (by decide +kernel)
set_option maxRecDepth 20000 in
theorem gX11_init_X9_init_n15 : GoodIn wsX11_init (wsX9_init) := ggX11_init_X9_init
set_option maxRecDepth 20000 in
theorem ggX11_init_X2_init : GoodIn wsX11_init wsX2_init := goodIn_r _ [57, 49, 6, 50, 51, 2, 3] (by decide +kernel) (by decide +kernel)
set_option maxRecDepth 20000 in
theorem gX11_init_X2_init_n18 : GoodIn wsX11_init (wsX2_init) := ggX11_init_X2_init
set_option maxRecDepth 20000 in
theorem ggX11_init_X8_init : GoodIn wsX11_init wsX8_init := goodIn_r _ [59, 56, 15, 57, 49, 6, 50, 51, 2, 3] (by decide +kernel) (by decide +kernel)
set_option maxRecDepth 20000 in
theorem gX11_init_X8_init_n21 : GoodIn wsX11_init (wsX8_init) := ggX11_init_X8_init
set_option maxRecDepth 20000 in
theorem ggX11_init_X3_init : GoodIn wsX11_init wsX3_init := goodIn_r _ [61, 62, 2, 3, 63, 64, 65, 66, 67, 68, 69, 70, 127, 128, 129, 130, 131, 132, 133] (by decide +kernel) (by decide +kernel)
set_option maxRecDepth 20000 in
theorem gX11_init_X3_init_n30 : GoodIn wsX11_init (wsX3_init) := ggX11_init_X3_init
set_option maxRecDepth 20000 in
theorem ggX11_init_X0_init : GoodIn wsX11_init wsX0_init := goodIn_r _ [73, 74, 2, 3, 75, 65, 76, 77, 78, 79, 80, 81, 82, 83, 84, 134, 135, 136, 137, 138, 139, 140, 141, 142] (by decide +kernel) (by decide +kernel)
set_option maxRecDepth 20000 in
theorem gX11_init_X0_init : GoodIn wsX11_init (wsX0_init) := ggX11_init_X0_init
set_option maxRecDepth 20000 in
theorem ggX11_init_X7_init : GoodIn wsX11_init wsX7_init := goodIn_r _ [87, 88, 2, 3, 89, 143, 144, 145, 146, 147, 148, 149, 150, 151] (by decide +kernel) (by decide +kernel)
set_option maxRecDepth 20000 in
theorem gX11_init_X7_init : GoodIn wsX11_init (wsX7_init) := ggX11_init_X7_init
set_option maxRecDepth 20000 in
theorem ggX11_init_X1_init : GoodIn wsX11_init wsX1_init := goodIn_r _ [92, 93, 2, 3, 65, 94, 95, 96, 152, 153, 154] (by decide +kernel) (by decide +kernel)
set_option maxRecDepth 20000 in
theorem gX11_init_X1_init : GoodIn wsX11_init (wsX1_init) := ggX11_init_X1_init
set_option maxRecDepth 20000 in
theorem ggX11_init_X10_init : GoodIn wsX11_init wsX10_init := goodIn_r _ [99, 100, 2, 3, 101, 65, 102, 103, 104, 105, 106, 155, 156, 157, 158, 159] (by decide +kernel) (by decide +kernel)
set_option maxRecDepth 20000 in
theorem gX11_init_X10_init : GoodIn wsX11_init (wsX10_init) := ggX11_init_X10_init
set_option maxRecDepth 20000 in
theorem ggX11_init_X4_init : GoodIn wsX11_init wsX4_init := goodIn_r _ [108, 109, 2, 3, 110, 111, 65, 112, 113, 114, 160, 161, 162, 163] (by decide +kernel) (by decide +kernel)
set_option maxRecDepth 20000 in
theorem gX11_init_X4_init_n71 : GoodIn wsX11_init (wsX4_init) := ggX11_init_X4_init
set_option maxRecDepth 20000 in
theorem ggX11_place_X11_remember : GoodIn wsX11_place wsX11_remember := goodIn_r _ [7, 8, 9, 10, 11, 12, 13, 1, 14, 15, 16, 17, 18, 19, 20, 21, 22, 23, 24, 25, 26, 27, 28, 29, 30, 31, 32, 33, 34, 35, 36, 37, 38, 39, 40, 41, 42, 43, 44, 45, 46, 47, 48, 49, 50, 51, 52, 53] (by decide +kernel) (by decide +kernel)
set_option maxRecDepth 20000 in
theorem gX11_place_X11_remember : GoodIn wsX11_place (wsV RX11 97 RX11 yX11_remember wsX11_remember) := goodIn_app (goodIn_of _ (by decide +kernel)) ggX11_place_X11_remember
set_option maxRecDepth 20000 in
theorem ggX11_line_X11_lineRefusal : GoodIn wsX11_line wsX11_lineRefusal := goodIn_r _ [7, 8, 9, 10, 11, 12, 13, 14, 15, 16, 17, 18, 19, 20, 21, 22, 89, 90, 91, 92, 93, 94, 95, 96, 97, 98, 99, 100, 101, 102, 103, 104, 105, 106, 107] (by decide +kernel) (by decide +kernel)
set_option maxRecDepth 20000 in
theorem gX11_line_X11_lineRefusal : GoodIn wsX11_line (wsV RX11 100 RX11 yX11_lineRefusal wsX11_lineRefusal) := goodIn_app (goodIn_of _ (by decide +kernel)) ggX11_line_X11_lineRefusal
set_option maxRecDepth 20000 in
theorem ggX11_widen_X3_hasLine : GoodIn wsX11_widen wsX3_hasLine := goodIn_r _ [11, 12, 98, 99, 100, 101, 102, 103, 104] (by decide +kernel) (by decide +kernel)
set_option maxRecDepth 20000 in
theorem gX11_widen_X3_hasLine : GoodIn wsX11_widen (wsV RX11 112 RX3 yX3_hasLine wsX3_hasLine) := goodIn_app (goodIn_of _ (by decide +kernel)) ggX11_widen_X3_hasLine
set_option maxRecDepth 20000 in
theorem ggX11_width_X3_hasLine : GoodIn wsX11_width wsX3_hasLine := goodIn_r _ [7, 8, 55, 56, 57, 58, 59, 60, 61] (by decide +kernel) (by decide +kernel)
set_option maxRecDepth 20000 in
theorem gX11_width_X3_hasLine : GoodIn wsX11_width (wsV RX11 112 RX3 yX3_hasLine wsX3_hasLine) := goodIn_app (goodIn_of _ (by decide +kernel)) ggX11_width_X3_hasLine
set_option maxRecDepth 20000 in
theorem ggX11_merge_X3_hasPair : GoodIn wsX11_merge wsX3_hasPair := goodIn_r _ [13, 14, 15, 16, 12, 17, 18, 72, 73, 74, 75, 76, 77, 78] (by decide +kernel) (by decide +kernel)
set_option maxRecDepth 20000 in
theorem gX11_merge_X3_hasPair : GoodIn wsX11_merge (wsV RX11 135 RX3 yX3_hasPair wsX3_hasPair) := goodIn_app (goodIn_of _ (by decide +kernel)) ggX11_merge_X3_hasPair
set_option maxRecDepth 20000 in
theorem ggX11_told_X3_hasLine : GoodIn wsX11_told wsX3_hasLine := goodIn_r _ [11, 12, 30, 31, 32, 33, 34, 35, 36] (by decide +kernel) (by decide +kernel)
set_option maxRecDepth 20000 in
theorem gX11_told_X3_hasLine : GoodIn wsX11_told (wsV RX11 112 RX3 yX3_hasLine wsX3_hasLine) := goodIn_app (goodIn_of _ (by decide +kernel)) ggX11_told_X3_hasLine
set_option maxRecDepth 20000 in
theorem ggX11_ask_X3_hasLine : GoodIn wsX11_ask wsX3_hasLine := goodIn_r _ [11, 12, 99, 100, 101, 102, 103, 104, 105] (by decide +kernel) (by decide +kernel)
set_option maxRecDepth 20000 in
theorem gX11_ask_X3_hasLine : GoodIn wsX11_ask (wsV RX11 112 RX3 yX3_hasLine wsX3_hasLine) := goodIn_app (goodIn_of _ (by decide +kernel)) ggX11_ask_X3_hasLine
set_option maxRecDepth 20000 in
theorem ggX11_most_X3_hasPair : GoodIn wsX11_most wsX3_hasPair := goodIn_r _ [6, 7, 8, 9, 5, 10, 11, 112, 113, 114, 115, 116, 117, 118] (by decide +kernel) (by decide +kernel)
set_option maxRecDepth 20000 in
theorem gX11_most_X3_hasPair : GoodIn wsX11_most (wsV RX11 135 RX3 yX3_hasPair wsX3_hasPair) := goodIn_app (goodIn_of _ (by decide +kernel)) ggX11_most_X3_hasPair
set_option maxRecDepth 20000 in
theorem ggX11_flow_X3_hasPair : GoodIn wsX11_flow wsX3_hasPair := goodIn_r _ [9, 10, 11, 12, 8, 13, 14, 129, 130, 131, 132, 133, 134, 135] (by decide +kernel) (by decide +kernel)
set_option maxRecDepth 20000 in
theorem gX11_flow_X3_hasPair : GoodIn wsX11_flow (wsV RX11 135 RX3 yX3_hasPair wsX3_hasPair) := goodIn_app (goodIn_of _ (by decide +kernel)) ggX11_flow_X3_hasPair
set_option maxRecDepth 20000 in
theorem ggX11_cut_X3_hasPair : GoodIn wsX11_cut wsX3_hasPair := goodIn_r _ [7, 8, 9, 10, 6, 11, 12, 124, 125, 126, 127, 128, 129, 130] (by decide +kernel) (by decide +kernel)
set_option maxRecDepth 20000 in
theorem gX11_cut_X3_hasPair : GoodIn wsX11_cut (wsV RX11 135 RX3 yX3_hasPair wsX3_hasPair) := goodIn_app (goodIn_of _ (by decide +kernel)) ggX11_cut_X3_hasPair
set_option maxRecDepth 20000 in
theorem ggX11_count_X3_hasPair : GoodIn wsX11_count wsX3_hasPair := goodIn_r _ [7, 8, 9, 10, 6, 11, 12, 149, 150, 151, 152, 153, 154, 155] (by decide +kernel) (by decide +kernel)
set_option maxRecDepth 20000 in
theorem gX11_count_X3_hasPair : GoodIn wsX11_count (wsV RX11 135 RX3 yX3_hasPair wsX3_hasPair) := goodIn_app (goodIn_of _ (by decide +kernel)) ggX11_count_X3_hasPair
set_option maxRecDepth 20000 in
theorem ggX11_next_X3_hasPair : GoodIn wsX11_next wsX3_hasPair := goodIn_r _ [7, 8, 9, 10, 6, 11, 12, 148, 149, 150, 151, 152, 153, 154] (by decide +kernel) (by decide +kernel)
set_option maxRecDepth 20000 in
theorem gX11_next_X3_hasPair : GoodIn wsX11_next (wsV RX11 135 RX3 yX3_hasPair wsX3_hasPair) := goodIn_app (goodIn_of _ (by decide +kernel)) ggX11_next_X3_hasPair
set_option maxRecDepth 20000 in
theorem ggX11_size_X3_hasPair : GoodIn wsX11_size wsX3_hasPair := goodIn_r _ [8, 9, 10, 11, 7, 12, 13, 83, 84, 85, 86, 87, 88, 89] (by decide +kernel) (by decide +kernel)
set_option maxRecDepth 20000 in
theorem gX11_size_X3_hasPair : GoodIn wsX11_size (wsV RX11 135 RX3 yX3_hasPair wsX3_hasPair) := goodIn_app (goodIn_of _ (by decide +kernel)) ggX11_size_X3_hasPair
set_option maxRecDepth 20000 in
theorem ggX11_raise_X3_hasPair : GoodIn wsX11_raise wsX3_hasPair := goodIn_r _ [7, 8, 9, 10, 6, 11, 12, 113, 114, 115, 116, 117, 118, 119] (by decide +kernel) (by decide +kernel)
set_option maxRecDepth 20000 in
theorem gX11_raise_X3_hasPair : GoodIn wsX11_raise (wsV RX11 135 RX3 yX3_hasPair wsX3_hasPair) := goodIn_app (goodIn_of _ (by decide +kernel)) ggX11_raise_X3_hasPair
set_option maxRecDepth 20000 in
theorem ggX11_cheapest_X3_hasPair : GoodIn wsX11_cheapest wsX3_hasPair := goodIn_r _ [7, 8, 9, 10, 6, 11, 12, 183, 184, 185, 186, 187, 188, 189] (by decide +kernel) (by decide +kernel)
set_option maxRecDepth 20000 in
theorem gX11_cheapest_X3_hasPair : GoodIn wsX11_cheapest (wsV RX11 135 RX3 yX3_hasPair wsX3_hasPair) := goodIn_app (goodIn_of _ (by decide +kernel)) ggX11_cheapest_X3_hasPair
set_option maxRecDepth 20000 in
theorem ggX11_tree_X3_isWhole : GoodIn wsX11_tree wsX3_isWhole := goodIn_r _ [9, 10, 11, 12, 13, 14, 15, 8, 16, 17, 134, 135, 136, 137, 138, 139, 140] (by decide +kernel) (by decide +kernel)
set_option maxRecDepth 20000 in
theorem gX11_tree_X3_isWhole : GoodIn wsX11_tree (wsV RX11 204 RX3 yX3_isWhole wsX3_isWhole) := goodIn_app (goodIn_of _ (by decide +kernel)) ggX11_tree_X3_isWhole
set_option maxRecDepth 20000 in
theorem ggX11_between_X3_isWhole : GoodIn wsX11_between wsX3_isWhole := goodIn_r _ [7, 8, 9, 10, 11, 12, 13, 6, 14, 15, 143, 144, 145, 146, 147, 148, 149] (by decide +kernel) (by decide +kernel)
set_option maxRecDepth 20000 in
theorem gX11_between_X3_isWhole : GoodIn wsX11_between (wsV RX11 204 RX3 yX3_isWhole wsX3_isWhole) := goodIn_app (goodIn_of _ (by decide +kernel)) ggX11_between_X3_isWhole
set_option maxRecDepth 20000 in
theorem ggX11_least_X3_isWhole : GoodIn wsX11_least wsX3_isWhole := goodIn_r _ [7, 8, 9, 10, 11, 12, 13, 6, 14, 15, 131, 132, 133, 134, 135, 136, 137] (by decide +kernel) (by decide +kernel)
set_option maxRecDepth 20000 in
theorem gX11_least_X3_isWhole : GoodIn wsX11_least (wsV RX11 204 RX3 yX3_isWhole wsX3_isWhole) := goodIn_app (goodIn_of _ (by decide +kernel)) ggX11_least_X3_isWhole
set_option maxRecDepth 20000 in
theorem ggX11_cuts_X3_isWhole : GoodIn wsX11_cuts wsX3_isWhole := goodIn_r _ [8, 9, 10, 11, 12, 13, 14, 7, 15, 16, 168, 169, 170, 171, 172, 173, 174] (by decide +kernel) (by decide +kernel)
set_option maxRecDepth 20000 in
theorem gX11_cuts_X3_isWhole : GoodIn wsX11_cuts (wsV RX11 204 RX3 yX3_isWhole wsX3_isWhole) := goodIn_app (goodIn_of _ (by decide +kernel)) ggX11_cuts_X3_isWhole
set_option maxRecDepth 20000 in
theorem ggX11_cutAt_X3_isWhole : GoodIn wsX11_cutAt wsX3_isWhole := goodIn_r _ [8, 9, 10, 11, 12, 13, 14, 7, 15, 16, 167, 168, 169, 170, 171, 172, 173] (by decide +kernel) (by decide +kernel)
set_option maxRecDepth 20000 in
theorem gX11_cutAt_X3_isWhole : GoodIn wsX11_cutAt (wsV RX11 204 RX3 yX3_isWhole wsX3_isWhole) := goodIn_app (goodIn_of _ (by decide +kernel)) ggX11_cutAt_X3_isWhole
set_option maxRecDepth 20000 in
theorem ggX11_weak_X3_hasLine : GoodIn wsX11_weak wsX3_hasLine := goodIn_r _ [9, 10, 146, 147, 148, 149, 150, 151, 152] (by decide +kernel) (by decide +kernel)
set_option maxRecDepth 20000 in
theorem gX11_weak_X3_hasLine : GoodIn wsX11_weak (wsV RX11 112 RX3 yX3_hasLine wsX3_hasLine) := goodIn_app (goodIn_of _ (by decide +kernel)) ggX11_weak_X3_hasLine
set_option maxRecDepth 20000 in
theorem ggX11_part_X3_isWhole : GoodIn wsX11_part wsX3_isWhole := goodIn_r _ [8, 9, 10, 11, 12, 13, 14, 7, 15, 16, 149, 150, 151, 152, 153, 154, 155] (by decide +kernel) (by decide +kernel)
set_option maxRecDepth 20000 in
theorem gX11_part_X3_isWhole : GoodIn wsX11_part (wsV RX11 204 RX3 yX3_isWhole wsX3_isWhole) := goodIn_app (goodIn_of _ (by decide +kernel)) ggX11_part_X3_isWhole
set_option maxRecDepth 20000 in
theorem ggX11_dense_X3_isWhole : GoodIn wsX11_dense wsX3_isWhole := goodIn_r _ [10, 11, 12, 13, 14, 15, 16, 9, 17, 18, 116, 117, 118, 119, 120, 121, 122] (by decide +kernel) (by decide +kernel)
set_option maxRecDepth 20000 in
theorem gX11_dense_X3_isWhole : GoodIn wsX11_dense (wsV RX11 204 RX3 yX3_isWhole wsX3_isWhole) := goodIn_app (goodIn_of _ (by decide +kernel)) ggX11_dense_X3_isWhole
set_option maxRecDepth 20000 in
theorem ggX11_map_X11_mapRefusal : GoodIn wsX11_map wsX11_mapRefusal := goodIn_r _ [6, 7, 8, 5, 9, 10, 11, 12] (by decide +kernel) (by decide +kernel)
set_option maxRecDepth 20000 in
theorem gX11_map_X11_mapRefusal : GoodIn wsX11_map (va_wsS RX11 247 yX11_mapRefusal wsX11_mapRefusal) := goodIn_app (goodIn_of _ (by decide +kernel)) ggX11_map_X11_mapRefusal
set_option maxRecDepth 20000 in
theorem ggX11_map_X4_begin : GoodIn wsX11_map wsX4_begin := goodIn_r _ [17, 18, 19, 20, 21, 22, 23, 24, 37, 38, 39, 40] (by decide +kernel) (by decide +kernel)
set_option maxRecDepth 20000 in
theorem gX11_map_X4_begin : GoodIn wsX11_map (wsV RX11 250 RX4 yX4_begin wsX4_begin) := goodIn_app (goodIn_of _ (by decide +kernel)) ggX11_map_X4_begin
set_option maxRecDepth 20000 in
theorem ggX11_row_X11_rowRefusal : GoodIn wsX11_row wsX11_rowRefusal := goodIn_r _ [7, 2, 8, 9, 6, 10, 11, 12, 13, 14, 15, 16, 17, 18, 19, 20, 27, 28, 29, 30, 31, 32, 33, 34, 35, 36, 37, 38, 39, 40, 41, 42] (by decide +kernel) (by decide +kernel)
set_option maxRecDepth 20000 in
theorem gX11_row_X11_rowRefusal : GoodIn wsX11_row (wsV RX11 254 RX11 yX11_rowRefusal wsX11_rowRefusal) := goodIn_app (goodIn_of _ (by decide +kernel)) ggX11_row_X11_rowRefusal
set_option maxRecDepth 20000 in
theorem ggX11_put_X11_numberRefusal : GoodIn wsX11_put wsX11_numberRefusal := goodIn_r _ [7, 2, 8, 9, 10, 11, 6, 12, 13, 14, 15, 16, 17, 18, 19, 20, 21, 22, 23, 24, 25, 32, 33, 34, 35, 36, 37, 38, 39, 40, 41, 42, 43, 44, 45, 46, 47] (by decide +kernel) (by decide +kernel)
set_option maxRecDepth 20000 in
theorem gX11_put_X11_numberRefusal : GoodIn wsX11_put (wsV RX11 260 RX11 yX11_numberRefusal wsX11_numberRefusal) := goodIn_app (goodIn_of _ (by decide +kernel)) ggX11_put_X11_numberRefusal
set_option maxRecDepth 20000 in
theorem ggX11_copy_X11_isMapNumber : GoodIn wsX11_copy wsX11_isMapNumber := goodIn_r _ [6] (by decide +kernel) (by decide +kernel)
set_option maxRecDepth 20000 in
theorem gX11_copy_X11_isMapNumber : GoodIn wsX11_copy (va_wsS RX11 267 yX11_isMapNumber wsX11_isMapNumber) := goodIn_app (goodIn_of _ (by decide +kernel)) ggX11_copy_X11_isMapNumber
set_option maxRecDepth 20000 in
theorem ggX11_copy_X4_moveRefusal : GoodIn wsX11_copy wsX4_moveRefusal := goodIn_r _ [11, 12, 13, 14, 15, 10, 16, 17, 18, 19, 20, 21, 22, 23, 24, 25, 47, 48, 49, 50] (by decide +kernel) (by decide +kernel)
set_option maxRecDepth 20000 in
theorem gX11_copy_X4_moveRefusal : GoodIn wsX11_copy (wsV RX11 270 RX4 yX4_moveRefusal wsX4_moveRefusal) := goodIn_app (goodIn_of _ (by decide +kernel)) ggX11_copy_X4_moveRefusal
set_option maxRecDepth 20000 in
theorem ggX11_item_X11_numberRefusal : GoodIn wsX11_item wsX11_numberRefusal := goodIn_r _ [7, 2, 8, 9, 10, 11, 6, 12, 13, 14, 15, 16, 17, 18, 19, 20, 21, 22, 23, 24, 25, 31, 32, 33, 34, 35, 36, 37, 38, 39, 40, 41, 42, 43, 44, 45, 46] (by decide +kernel) (by decide +kernel)
set_option maxRecDepth 20000 in
theorem gX11_item_X11_numberRefusal : GoodIn wsX11_item (wsV RX11 260 RX11 yX11_numberRefusal wsX11_numberRefusal) := goodIn_app (goodIn_of _ (by decide +kernel)) ggX11_item_X11_numberRefusal
set_option maxRecDepth 20000 in
theorem ggX11_read_X11_isMapNumber : GoodIn wsX11_read wsX11_isMapNumber := goodIn_r _ [7] (by decide +kernel) (by decide +kernel)
set_option maxRecDepth 20000 in
theorem gX11_read_X11_isMapNumber : GoodIn wsX11_read (va_wsS RX11 267 yX11_isMapNumber wsX11_isMapNumber) := goodIn_app (goodIn_of _ (by decide +kernel)) ggX11_read_X11_isMapNumber
set_option maxRecDepth 20000 in
theorem ggX11_read_X4_isThere : GoodIn wsX11_read wsX4_isThere := goodIn_r _ [12, 13, 113, 114, 115, 116] (by decide +kernel) (by decide +kernel)
set_option maxRecDepth 20000 in
theorem gX11_read_X4_isThere : GoodIn wsX11_read (wsV RX11 281 RX4 yX4_isThere wsX4_isThere) := goodIn_app (goodIn_of _ (by decide +kernel)) ggX11_read_X4_isThere
set_option maxRecDepth 20000 in
theorem ggX11_about_X3_missingLines : GoodIn wsX11_about wsX3_missingLines := goodIn_r _ [9, 10, 11, 12, 13, 8, 14, 15, 34, 35, 36, 37, 38, 39, 40] (by decide +kernel) (by decide +kernel)
set_option maxRecDepth 20000 in
theorem gX11_about_X3_missingLines : GoodIn wsX11_about (wsV RX11 297 RX3 yX3_missingLines wsX3_missingLines) := goodIn_app (goodIn_of _ (by decide +kernel)) ggX11_about_X3_missingLines
set_option maxRecDepth 20000 in
theorem ggX11_about_X3_isWhole : GoodIn wsX11_about wsX3_isWhole := goodIn_r _ [19, 10, 20, 21, 11, 12, 13, 8, 14, 15, 34, 35, 36, 37, 38, 39, 40] (by decide +kernel) (by decide +kernel)
set_option maxRecDepth 20000 in
theorem gX11_about_X3_isWhole : GoodIn wsX11_about (wsV RX11 204 RX3 yX3_isWhole wsX3_isWhole) := goodIn_app (goodIn_of _ (by decide +kernel)) ggX11_about_X3_isWhole
set_option maxRecDepth 20000 in
theorem ggX11_remember_X3_init : GoodIn wsX11_remember wsX3_init := goodIn_r _ [9, 10, 11, 12, 13, 14, 15, 16, 17, 18, 19, 20, 41, 42, 43, 44, 45, 46, 47] (by decide +kernel) (by decide +kernel)
set_option maxRecDepth 20000 in
theorem gX11_remember_X3_init_n30 : GoodIn wsX11_remember (wsX3_init) := ggX11_remember_X3_init
set_option maxRecDepth 20000 in
theorem ggX11_remember_X3_become : GoodIn wsX11_remember wsX3_become := goodIn_r _ [24, 13, 14, 16, 25, 26, 27, 28, 17, 18, 19, 20, 41, 42, 43, 44, 45, 46, 47] (by decide +kernel) (by decide +kernel)
set_option maxRecDepth 20000 in
theorem gX11_remember_X3_become : GoodIn wsX11_remember (wsV RX11 151 RX3 yX3_become wsX3_become) := goodIn_app (goodIn_of _ (by decide +kernel)) ggX11_remember_X3_become
set_option maxRecDepth 20000 in
theorem ggX11_lineRefusal_X3_hasPair : GoodIn wsX11_lineRefusal wsX3_hasPair := goodIn_r _ [10, 11, 12, 13, 9, 14, 15, 28, 29, 30, 31, 32, 33, 34] (by decide +kernel) (by decide +kernel)
set_option maxRecDepth 20000 in
theorem gX11_lineRefusal_X3_hasPair : GoodIn wsX11_lineRefusal (wsV RX11 135 RX3 yX3_hasPair wsX3_hasPair) := goodIn_app (goodIn_of _ (by decide +kernel)) ggX11_lineRefusal_X3_hasPair
set_option maxRecDepth 20000 in
theorem ggX11_mapRefusal_X11_isMapNumber : GoodIn wsX11_mapRefusal wsX11_isMapNumber := goodIn_r _ [4] (by decide +kernel) (by decide +kernel)
set_option maxRecDepth 20000 in
theorem gX11_mapRefusal_X11_isMapNumber : GoodIn wsX11_mapRefusal (va_wsS RX11 267 yX11_isMapNumber wsX11_isMapNumber) := goodIn_app (goodIn_of _ (by decide +kernel)) ggX11_mapRefusal_X11_isMapNumber
set_option maxRecDepth 20000 in
theorem ggX11_mapRefusal_X11_isMapKind : GoodIn wsX11_mapRefusal wsX11_isMapKind := goodIn_r _ [7] (by decide +kernel) (by decide +kernel)
set_option maxRecDepth 20000 in
theorem gX11_mapRefusal_X11_isMapKind : GoodIn wsX11_mapRefusal (va_wsS RX11 312 yX11_isMapKind wsX11_isMapKind) := goodIn_app (goodIn_of _ (by decide +kernel)) ggX11_mapRefusal_X11_isMapKind
set_option maxRecDepth 20000 in
theorem ggX11_rowRefusal_X11_isMapNumber : GoodIn wsX11_rowRefusal wsX11_isMapNumber := goodIn_r _ [5] (by decide +kernel) (by decide +kernel)
set_option maxRecDepth 20000 in
theorem gX11_rowRefusal_X11_isMapNumber : GoodIn wsX11_rowRefusal (va_wsS RX11 267 yX11_isMapNumber wsX11_isMapNumber) := goodIn_app (goodIn_of _ (by decide +kernel)) ggX11_rowRefusal_X11_isMapNumber
set_option maxRecDepth 20000 in
theorem ggX11_rowRefusal_X4_isThere : GoodIn wsX11_rowRefusal wsX4_isThere := goodIn_r _ [10, 11, 28, 29, 30, 31] (by decide +kernel) (by decide +kernel)
set_option maxRecDepth 20000 in
theorem gX11_rowRefusal_X4_isThere : GoodIn wsX11_rowRefusal (wsV RX11 281 RX4 yX4_isThere wsX4_isThere) := goodIn_app (goodIn_of _ (by decide +kernel)) ggX11_rowRefusal_X4_isThere
set_option maxRecDepth 20000 in
theorem ggX11_numberRefusal_X11_isMapNumber : GoodIn wsX11_numberRefusal wsX11_isMapNumber := goodIn_r _ [7] (by decide +kernel) (by decide +kernel)
set_option maxRecDepth 20000 in
theorem gX11_numberRefusal_X11_isMapNumber : GoodIn wsX11_numberRefusal (va_wsS RX11 267 yX11_isMapNumber wsX11_isMapNumber) := goodIn_app (goodIn_of _ (by decide +kernel)) ggX11_numberRefusal_X11_isMapNumber
