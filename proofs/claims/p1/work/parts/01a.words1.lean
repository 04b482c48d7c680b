set_option maxRecDepth 20000 in
theorem ggX11_numberRefusal_X11_isMapKind : GoodIn wsX11_numberRefusal wsX11_isMapKind := goodIn_r _ [10] (by decide +kernel) (by decide +kernel)
set_option maxRecDepth 20000 in
theorem gX11_numberRefusal_X11_isMapKind : GoodIn wsX11_numberRefusal (va_wsS RX11 312 yX11_isMapKind wsX11_isMapKind) := goodIn_app (goodIn_of _ (by decide +kernel)) ggX11_numberRefusal_X11_isMapKind
set_option maxRecDepth 20000 in
theorem ggX11_numberRefusal_X4_isThere : GoodIn wsX11_numberRefusal wsX4_isThere := goodIn_r _ [15, 16, 33, 34, 35, 36] (by decide +kernel) (by decide +kernel)
set_option maxRecDepth 20000 in
theorem gX11_numberRefusal_X4_isThere : GoodIn wsX11_numberRefusal (wsV RX11 281 RX4 yX4_isThere wsX4_isThere) := goodIn_app (goodIn_of _ (by decide +kernel)) ggX11_numberRefusal_X4_isThere
set_option maxRecDepth 20000 in
theorem ggX12_isPlace_X12_in : GoodIn wsX12_isPlace wsX12_in := goodIn_r _ [5] (by decide +kernel) (by decide +kernel)
set_option maxRecDepth 20000 in
theorem gX12_isPlace_X12_in : GoodIn wsX12_isPlace (va_wsS RX12 91 yX12_in wsX12_in) := goodIn_app (goodIn_of _ (by decide +kernel)) ggX12_isPlace_X12_in
set_option maxRecDepth 20000 in
theorem ggX12_isLine_X12_in : GoodIn wsX12_isLine wsX12_in := goodIn_r _ [5] (by decide +kernel) (by decide +kernel)
set_option maxRecDepth 20000 in
theorem gX12_isLine_X12_in : GoodIn wsX12_isLine (va_wsS RX12 91 yX12_in wsX12_in) := goodIn_app (goodIn_of _ (by decide +kernel)) ggX12_isLine_X12_in
set_option maxRecDepth 20000 in
theorem ggX12_arePlaces_X12_isPlace : GoodIn wsX12_arePlaces wsX12_isPlace := goodIn_r _ [5, 6, 7, 8, 4, 9, 10, 11, 12, 13, 14, 15, 16, 17, 18, 19, 20, 21, 22, 23, 24, 25, 26, 27, 28, 29, 30, 31, 32, 33, 34, 35, 36, 37, 38, 39, 40, 41, 42, 43] (by decide +kernel) (by decide +kernel)
set_option maxRecDepth 20000 in
theorem gX12_arePlaces_X12_isPlace : GoodIn wsX12_arePlaces (wsV RX12 98 RX12 yX12_isPlace wsX12_isPlace) := goodIn_app (goodIn_of _ (by decide +kernel)) ggX12_arePlaces_X12_isPlace
set_option maxRecDepth 20000 in
theorem ggX12_place_X12_keeps : GoodIn wsX12_place wsX12_keeps := goodIn_r _ [7, 8, 9, 10, 11, 2, 12, 13, 14, 15, 16, 17, 18, 19, 20, 21, 22, 23, 24, 25, 26, 27, 28, 29, 30, 31, 32, 33, 34, 35, 36, 37, 38, 39, 40, 41, 42, 43, 44, 45, 46, 47, 48, 49, 50, 51, 52] (by decide +kernel) (by decide +kernel)
set_option maxRecDepth 20000 in
theorem gX12_place_X12_keeps : GoodIn wsX12_place (wsV RX12 105 RX12 yX12_keeps wsX12_keeps) := goodIn_app (goodIn_of _ (by decide +kernel)) ggX12_place_X12_keeps
set_option maxRecDepth 20000 in
theorem ggX12_refused_X12_in : GoodIn wsX12_refused wsX12_in := goodIn_r _ [9] (by decide +kernel) (by decide +kernel)
set_option maxRecDepth 20000 in
theorem gX12_refused_X12_in : GoodIn wsX12_refused (va_wsS RX12 91 yX12_in wsX12_in) := goodIn_app (goodIn_of _ (by decide +kernel)) ggX12_refused_X12_in
set_option maxRecDepth 20000 in
theorem ggX12_line_X12_refused : GoodIn wsX12_line wsX12_refused := goodIn_r _ [7, 8, 9, 10, 11, 2, 12, 13, 6, 14, 35, 36, 37, 38, 39, 40, 41, 42, 43, 44, 45, 46, 47, 48, 49, 50, 51, 52, 53, 54, 55, 56, 57, 58, 59, 60, 61, 62, 63, 64, 65, 66, 67, 68] (by decide +kernel) (by decide +kernel)
set_option maxRecDepth 20000 in
theorem gX12_line_X12_refused : GoodIn wsX12_line (wsV RX12 120 RX12 yX12_refused wsX12_refused) := goodIn_app (goodIn_of _ (by decide +kernel)) ggX12_line_X12_refused
set_option maxRecDepth 20000 in
theorem ggX12_widen_X12_isLine : GoodIn wsX12_widen wsX12_isLine := goodIn_r _ [10, 11, 12, 13, 9, 14, 38, 39, 40, 41, 42, 43, 44, 45, 46, 47, 48, 49, 50, 51, 52, 53, 54, 55, 56, 57, 58, 59, 60, 61, 62, 63, 64, 65, 66, 67, 68, 69, 70, 71] (by decide +kernel) (by decide +kernel)
set_option maxRecDepth 20000 in
theorem gX12_widen_X12_isLine : GoodIn wsX12_widen (wsV RX12 132 RX12 yX12_isLine wsX12_isLine) := goodIn_app (goodIn_of _ (by decide +kernel)) ggX12_widen_X12_isLine
set_option maxRecDepth 20000 in
theorem ggX12_width_X12_isLine : GoodIn wsX12_width wsX12_isLine := goodIn_r _ [9, 10, 11, 12, 8, 13, 27, 28, 29, 30, 31, 32, 33, 34, 35, 36, 37, 38, 39, 40, 41, 42, 43, 44, 45, 46, 47, 48, 49, 50, 51, 52, 53, 54, 55, 56, 57, 58, 59, 60] (by decide +kernel) (by decide +kernel)
set_option maxRecDepth 20000 in
theorem gX12_width_X12_isLine : GoodIn wsX12_width (wsV RX12 132 RX12 yX12_isLine wsX12_isLine) := goodIn_app (goodIn_of _ (by decide +kernel)) ggX12_width_X12_isLine
set_option maxRecDepth 20000 in
theorem ggX12_merge_X12_arePlaces : GoodIn wsX12_merge wsX12_arePlaces := goodIn_r _ [11, 12, 13, 14, 10, 15, 6, 16, 17, 18, 30, 31, 32, 33, 34, 35, 36, 37, 38, 39, 40, 41, 42, 43, 44, 45, 46, 47, 48, 49, 50, 51, 52, 53, 54, 55, 56, 57, 58, 59, 60, 61, 62, 63] (by decide +kernel) (by decide +kernel)
set_option maxRecDepth 20000 in
theorem gX12_merge_X12_arePlaces : GoodIn wsX12_merge (wsV RX12 143 RX12 yX12_arePlaces wsX12_arePlaces) := goodIn_app (goodIn_of _ (by decide +kernel)) ggX12_merge_X12_arePlaces
set_option maxRecDepth 20000 in
theorem ggX12_told_X12_isLine : GoodIn wsX12_told wsX12_isLine := goodIn_r _ [13, 14, 15, 16, 12, 17, 18, 19, 20, 21, 22, 23, 24, 25, 26, 27, 28, 29, 30, 31, 32, 33, 34, 35, 36, 37, 38, 39, 40, 41, 42, 43, 44, 45, 46, 47, 48, 49, 50, 51] (by decide +kernel) (by decide +kernel)
set_option maxRecDepth 20000 in
theorem gX12_told_X12_isLine : GoodIn wsX12_told (wsV RX12 132 RX12 yX12_isLine wsX12_isLine) := goodIn_app (goodIn_of _ (by decide +kernel)) ggX12_told_X12_isLine
set_option maxRecDepth 20000 in
theorem ggX12_ask_X12_isLine : GoodIn wsX12_ask wsX12_isLine := goodIn_r _ [12, 13, 14, 15, 11, 16, 34, 35, 36, 37, 38, 39, 40, 41, 42, 43, 44, 45, 46, 47, 48, 49, 50, 51, 52, 53, 54, 55, 56, 57, 58, 59, 60, 61, 62, 63, 64, 65, 66, 67] (by decide +kernel) (by decide +kernel)
set_option maxRecDepth 20000 in
theorem gX12_ask_X12_isLine : GoodIn wsX12_ask (wsV RX12 132 RX12 yX12_isLine wsX12_isLine) := goodIn_app (goodIn_of _ (by decide +kernel)) ggX12_ask_X12_isLine
set_option maxRecDepth 20000 in
theorem ggX12_most_X12_arePlaces : GoodIn wsX12_most wsX12_arePlaces := goodIn_r _ [6, 7, 8, 9, 5, 10, 11, 12, 13, 14, 42, 43, 44, 45, 46, 47, 48, 49, 50, 51, 52, 53, 54, 55, 56, 57, 58, 59, 60, 61, 62, 63, 64, 65, 66, 67, 68, 69, 70, 71, 72, 73, 74, 75] (by decide +kernel) (by decide +kernel)
set_option maxRecDepth 20000 in
theorem gX12_most_X12_arePlaces : GoodIn wsX12_most (wsV RX12 143 RX12 yX12_arePlaces wsX12_arePlaces) := goodIn_app (goodIn_of _ (by decide +kernel)) ggX12_most_X12_arePlaces
set_option maxRecDepth 20000 in
theorem ggX12_flow_X12_arePlaces : GoodIn wsX12_flow wsX12_arePlaces := goodIn_r _ [10, 11, 12, 13, 9, 14, 15, 16, 17, 18, 68, 69, 70, 71, 72, 73, 74, 75, 76, 77, 78, 79, 80, 81, 82, 83, 84, 85, 86, 87, 88, 89, 90, 91, 92, 93, 94, 95, 96, 97, 98, 99, 100, 101] (by decide +kernel) (by decide +kernel)
set_option maxRecDepth 20000 in
theorem gX12_flow_X12_arePlaces : GoodIn wsX12_flow (wsV RX12 143 RX12 yX12_arePlaces wsX12_arePlaces) := goodIn_app (goodIn_of _ (by decide +kernel)) ggX12_flow_X12_arePlaces
set_option maxRecDepth 20000 in
theorem ggX12_cut_X12_arePlaces : GoodIn wsX12_cut wsX12_arePlaces := goodIn_r _ [9, 10, 11, 12, 8, 13, 14, 15, 16, 17, 50, 51, 52, 53, 54, 55, 56, 57, 58, 59, 60, 61, 62, 63, 64, 65, 66, 67, 68, 69, 70, 71, 72, 73, 74, 75, 76, 77, 78, 79, 80, 81, 82, 83] (by decide +kernel) (by decide +kernel)
set_option maxRecDepth 20000 in
theorem gX12_cut_X12_arePlaces : GoodIn wsX12_cut (wsV RX12 143 RX12 yX12_arePlaces wsX12_arePlaces) := goodIn_app (goodIn_of _ (by decide +kernel)) ggX12_cut_X12_arePlaces
set_option maxRecDepth 20000 in
theorem ggX12_count_X12_arePlaces : GoodIn wsX12_count wsX12_arePlaces := goodIn_r _ [8, 9, 10, 11, 7, 12, 13, 14, 15, 16, 50, 51, 52, 53, 54, 55, 56, 57, 58, 59, 60, 61, 62, 63, 64, 65, 66, 67, 68, 69, 70, 71, 72, 73, 74, 75, 76, 77, 78, 79, 80, 81, 82, 83] (by decide +kernel) (by decide +kernel)
set_option maxRecDepth 20000 in
theorem gX12_count_X12_arePlaces : GoodIn wsX12_count (wsV RX12 143 RX12 yX12_arePlaces wsX12_arePlaces) := goodIn_app (goodIn_of _ (by decide +kernel)) ggX12_count_X12_arePlaces
set_option maxRecDepth 20000 in
theorem ggX12_next_X12_arePlaces : GoodIn wsX12_next wsX12_arePlaces := goodIn_r _ [8, 9, 10, 11, 7, 12, 13, 14, 15, 16, 50, 51, 52, 53, 54, 55, 56, 57, 58, 59, 60, 61, 62, 63, 64, 65, 66, 67, 68, 69, 70, 71, 72, 73, 74, 75, 76, 77, 78, 79, 80, 81, 82, 83] (by decide +kernel) (by decide +kernel)
set_option maxRecDepth 20000 in
theorem gX12_next_X12_arePlaces : GoodIn wsX12_next (wsV RX12 143 RX12 yX12_arePlaces wsX12_arePlaces) := goodIn_app (goodIn_of _ (by decide +kernel)) ggX12_next_X12_arePlaces
set_option maxRecDepth 20000 in
theorem ggX12_size_X12_arePlaces : GoodIn wsX12_size wsX12_arePlaces := goodIn_r _ [7, 8, 9, 10, 6, 11, 2, 12, 13, 14, 38, 39, 40, 41, 42, 43, 44, 45, 46, 47, 48, 49, 50, 51, 52, 53, 54, 55, 56, 57, 58, 59, 60, 61, 62, 63, 64, 65, 66, 67, 68, 69, 70, 71] (by decide +kernel) (by decide +kernel)
set_option maxRecDepth 20000 in
theorem gX12_size_X12_arePlaces : GoodIn wsX12_size (wsV RX12 143 RX12 yX12_arePlaces wsX12_arePlaces) := goodIn_app (goodIn_of _ (by decide +kernel)) ggX12_size_X12_arePlaces
set_option maxRecDepth 20000 in
theorem ggX12_raise_X12_arePlaces : GoodIn wsX12_raise wsX12_arePlaces := goodIn_r _ [8, 9, 10, 11, 7, 12, 13, 14, 15, 16, 46, 47, 48, 49, 50, 51, 52, 53, 54, 55, 56, 57, 58, 59, 60, 61, 62, 63, 64, 65, 66, 67, 68, 69, 70, 71, 72, 73, 74, 75, 76, 77, 78, 79] (by decide +kernel) (by decide +kernel)
set_option maxRecDepth 20000 in
theorem gX12_raise_X12_arePlaces : GoodIn wsX12_raise (wsV RX12 143 RX12 yX12_arePlaces wsX12_arePlaces) := goodIn_app (goodIn_of _ (by decide +kernel)) ggX12_raise_X12_arePlaces
set_option maxRecDepth 20000 in
theorem ggX12_cheapest_X12_arePlaces : GoodIn wsX12_cheapest wsX12_arePlaces := goodIn_r _ [12, 13, 14, 15, 11, 16, 17, 18, 19, 20, 63, 64, 65, 66, 67, 68, 69, 70, 71, 72, 73, 74, 75, 76, 77, 78, 79, 80, 81, 82, 83, 84, 85, 86, 87, 88, 89, 90, 91, 92, 93, 94, 95, 96] (by decide +kernel) (by decide +kernel)
set_option maxRecDepth 20000 in
theorem gX12_cheapest_X12_arePlaces : GoodIn wsX12_cheapest (wsV RX12 143 RX12 yX12_arePlaces wsX12_arePlaces) := goodIn_app (goodIn_of _ (by decide +kernel)) ggX12_cheapest_X12_arePlaces
set_option maxRecDepth 20000 in
theorem ggX12_tree_X12_in : GoodIn wsX12_tree wsX12_in := goodIn_r _ [7] (by decide +kernel) (by decide +kernel)
set_option maxRecDepth 20000 in
theorem gX12_tree_X12_in : GoodIn wsX12_tree (va_wsS RX12 91 yX12_in wsX12_in) := goodIn_app (goodIn_of _ (by decide +kernel)) ggX12_tree_X12_in
set_option maxRecDepth 20000 in
theorem ggX12_tree_X12_isWhole : GoodIn wsX12_tree wsX12_isWhole := goodIn_r _ [11, 12, 13, 14, 15, 56, 57, 58, 59, 60, 61, 62, 63, 64, 65, 66, 67, 68, 69, 70, 71, 72, 73, 74, 75, 76, 77, 78, 79, 80, 81, 82, 83, 84, 85, 86, 87, 88, 89] (by decide +kernel) (by decide +kernel)
set_option maxRecDepth 20000 in
theorem gX12_tree_X12_isWhole : GoodIn wsX12_tree (wsV RX12 225 RX12 yX12_isWhole wsX12_isWhole) := goodIn_app (goodIn_of _ (by decide +kernel)) ggX12_tree_X12_isWhole
set_option maxRecDepth 20000 in
theorem ggX12_between_X12_isWhole : GoodIn wsX12_between wsX12_isWhole := goodIn_r _ [6, 7, 8, 9, 10, 43, 44, 45, 46, 47, 48, 49, 50, 51, 52, 53, 54, 55, 56, 57, 58, 59, 60, 61, 62, 63, 64, 65, 66, 67, 68, 69, 70, 71, 72, 73, 74, 75, 76] (by decide +kernel) (by decide +kernel)
set_option maxRecDepth 20000 in
theorem gX12_between_X12_isWhole : GoodIn wsX12_between (wsV RX12 225 RX12 yX12_isWhole wsX12_isWhole) := goodIn_app (goodIn_of _ (by decide +kernel)) ggX12_between_X12_isWhole
set_option maxRecDepth 20000 in
theorem ggX12_least_X12_isWhole : GoodIn wsX12_least wsX12_isWhole := goodIn_r _ [6, 7, 8, 9, 10, 36, 37, 38, 39, 40, 41, 42, 43, 44, 45, 46, 47, 48, 49, 50, 51, 52, 53, 54, 55, 56, 57, 58, 59, 60, 61, 62, 63, 64, 65, 66, 67, 68, 69] (by decide +kernel) (by decide +kernel)
set_option maxRecDepth 20000 in
theorem gX12_least_X12_isWhole : GoodIn wsX12_least (wsV RX12 225 RX12 yX12_isWhole wsX12_isWhole) := goodIn_app (goodIn_of _ (by decide +kernel)) ggX12_least_X12_isWhole
set_option maxRecDepth 20000 in
theorem ggX12_cuts_X12_isWhole : GoodIn wsX12_cuts wsX12_isWhole := goodIn_r _ [7, 8, 9, 10, 11, 42, 43, 44, 45, 46, 47, 48, 49, 50, 51, 52, 53, 54, 55, 56, 57, 58, 59, 60, 61, 62, 63, 64, 65, 66, 67, 68, 69, 70, 71, 72, 73, 74, 75] (by decide +kernel) (by decide +kernel)
set_option maxRecDepth 20000 in
theorem gX12_cuts_X12_isWhole : GoodIn wsX12_cuts (wsV RX12 225 RX12 yX12_isWhole wsX12_isWhole) := goodIn_app (goodIn_of _ (by decide +kernel)) ggX12_cuts_X12_isWhole
set_option maxRecDepth 20000 in
theorem ggX12_cutAt_X12_isWhole : GoodIn wsX12_cutAt wsX12_isWhole := goodIn_r _ [7, 8, 9, 10, 11, 42, 43, 44, 45, 46, 47, 48, 49, 50, 51, 52, 53, 54, 55, 56, 57, 58, 59, 60, 61, 62, 63, 64, 65, 66, 67, 68, 69, 70, 71, 72, 73, 74, 75] (by decide +kernel) (by decide +kernel)
set_option maxRecDepth 20000 in
theorem gX12_cutAt_X12_isWhole : GoodIn wsX12_cutAt (wsV RX12 225 RX12 yX12_isWhole wsX12_isWhole) := goodIn_app (goodIn_of _ (by decide +kernel)) ggX12_cutAt_X12_isWhole
set_option maxRecDepth 20000 in
theorem ggX12_weak_X12_isLine : GoodIn wsX12_weak wsX12_isLine := goodIn_r _ [10, 11, 12, 13, 9, 14, 43, 44, 45, 46, 47, 48, 49, 50, 51, 52, 53, 54, 55, 56, 57, 58, 59, 60, 61, 62, 63, 64, 65, 66, 67, 68, 69, 70, 71, 72, 73, 74, 75, 76] (by decide +kernel) (by decide +kernel)
set_option maxRecDepth 20000 in
theorem gX12_weak_X12_isLine : GoodIn wsX12_weak (wsV RX12 132 RX12 yX12_isLine wsX12_isLine) := goodIn_app (goodIn_of _ (by decide +kernel)) ggX12_weak_X12_isLine
set_option maxRecDepth 20000 in
theorem ggX12_part_X12_isWhole : GoodIn wsX12_part wsX12_isWhole := goodIn_r _ [7, 2, 8, 9, 10, 39, 40, 41, 42, 43, 44, 45, 46, 47, 48, 49, 50, 51, 52, 53, 54, 55, 56, 57, 58, 59, 60, 61, 62, 63, 64, 65, 66, 67, 68, 69, 70, 71, 72] (by decide +kernel) (by decide +kernel)
set_option maxRecDepth 20000 in
theorem gX12_part_X12_isWhole : GoodIn wsX12_part (wsV RX12 225 RX12 yX12_isWhole wsX12_isWhole) := goodIn_app (goodIn_of _ (by decide +kernel)) ggX12_part_X12_isWhole
set_option maxRecDepth 20000 in
theorem ggX12_dense_X12_in : GoodIn wsX12_dense wsX12_in := goodIn_r _ [12] (by decide +kernel) (by decide +kernel)
set_option maxRecDepth 20000 in
theorem gX12_dense_X12_in : GoodIn wsX12_dense (va_wsS RX12 91 yX12_in wsX12_in) := goodIn_app (goodIn_of _ (by decide +kernel)) ggX12_dense_X12_in
set_option maxRecDepth 20000 in
theorem ggX12_dense_X12_isWhole : GoodIn wsX12_dense wsX12_isWhole := goodIn_r _ [16, 3, 4, 5, 17, 21, 22, 23, 24, 25, 26, 27, 28, 29, 30, 31, 32, 33, 34, 35, 36, 37, 38, 39, 40, 41, 42, 43, 44, 45, 46, 47, 48, 49, 50, 51, 52, 53, 54] (by decide +kernel) (by decide +kernel)
set_option maxRecDepth 20000 in
theorem gX12_dense_X12_isWhole : GoodIn wsX12_dense (wsV RX12 225 RX12 yX12_isWhole wsX12_isWhole) := goodIn_app (goodIn_of _ (by decide +kernel)) ggX12_dense_X12_isWhole
set_option maxRecDepth 20000 in
theorem ggX12_map_X12_in : GoodIn wsX12_map wsX12_in := goodIn_r _ [12] (by decide +kernel) (by decide +kernel)
set_option maxRecDepth 20000 in
theorem gX12_map_X12_in : GoodIn wsX12_map (va_wsS RX12 91 yX12_in wsX12_in) := goodIn_app (goodIn_of _ (by decide +kernel)) ggX12_map_X12_in
set_option maxRecDepth 20000 in
theorem ggX12_map_X12_no : GoodIn wsX12_map wsX12_no := goodIn_r _ [16, 2, 17, 18, 19, 20, 21, 22, 23, 24, 25, 26, 27, 28, 29, 30, 31, 32, 33, 34, 35, 36, 37, 38, 39, 40, 41, 42, 43, 44, 45, 46, 47, 48, 49, 50] (by decide +kernel) (by decide +kernel)
set_option maxRecDepth 20000 in
theorem gX12_map_X12_no : GoodIn wsX12_map (wsV RX12 245 RX12 yX12_no wsX12_no) := goodIn_app (goodIn_of _ (by decide +kernel)) ggX12_map_X12_no
set_option maxRecDepth 20000 in
theorem ggX12_row_X12_in : GoodIn wsX12_row wsX12_in := goodIn_r _ [11] (by decide +kernel) (by decide +kernel)
set_option maxRecDepth 20000 in
theorem gX12_row_X12_in : GoodIn wsX12_row (va_wsS RX12 91 yX12_in wsX12_in) := goodIn_app (goodIn_of _ (by decide +kernel)) ggX12_row_X12_in
set_option maxRecDepth 20000 in
theorem ggX12_row_X12_no : GoodIn wsX12_row wsX12_no := goodIn_r _ [15, 2, 16, 17, 18, 19, 20, 21, 22, 23, 24, 25, 26, 27, 28, 29, 30, 31, 32, 33, 34, 35, 36, 37, 38, 39, 40, 41, 42, 43, 44, 45, 46, 47, 48, 49] (by decide +kernel) (by decide +kernel)
set_option maxRecDepth 20000 in
theorem gX12_row_X12_no : GoodIn wsX12_row (wsV RX12 245 RX12 yX12_no wsX12_no) := goodIn_app (goodIn_of _ (by decide +kernel)) ggX12_row_X12_no
set_option maxRecDepth 20000 in
theorem ggX12_wrong_X12_in : GoodIn wsX12_wrong wsX12_in := goodIn_r _ [10] (by decide +kernel) (by decide +kernel)
set_option maxRecDepth 20000 in
theorem gX12_wrong_X12_in : GoodIn wsX12_wrong (va_wsS RX12 91 yX12_in wsX12_in) := goodIn_app (goodIn_of _ (by decide +kernel)) ggX12_wrong_X12_in
set_option maxRecDepth 20000 in
theorem ggX12_put_X12_wrong : GoodIn wsX12_put wsX12_wrong := goodIn_r _ [8, 9, 10, 11, 12, 13, 14, 15, 16, 7, 17, 22, 23, 24, 25, 26, 27, 28, 29, 30, 31, 32, 33, 34, 35, 36, 37, 38, 39, 40, 41, 42, 43, 44, 45, 46, 47, 48, 49, 50, 51, 52, 53, 54, 55] (by decide +kernel) (by decide +kernel)
set_option maxRecDepth 20000 in
theorem gX12_put_X12_wrong : GoodIn wsX12_put (wsV RX12 248 RX12 yX12_wrong wsX12_wrong) := goodIn_app (goodIn_of _ (by decide +kernel)) ggX12_put_X12_wrong
set_option maxRecDepth 20000 in
theorem ggX12_put_X12_no : GoodIn wsX12_put wsX12_no := goodIn_r _ [21, 2, 22, 23, 24, 25, 26, 27, 28, 29, 30, 31, 32, 33, 34, 35, 36, 37, 38, 39, 40, 41, 42, 43, 44, 45, 46, 47, 48, 49, 50, 51, 52, 53, 54, 55] (by decide +kernel) (by decide +kernel)
set_option maxRecDepth 20000 in
theorem gX12_put_X12_no : GoodIn wsX12_put (wsV RX12 245 RX12 yX12_no wsX12_no) := goodIn_app (goodIn_of _ (by decide +kernel)) ggX12_put_X12_no
set_option maxRecDepth 20000 in
theorem ggX12_copy_X12_in : GoodIn wsX12_copy wsX12_in := goodIn_r _ [12] (by decide +kernel) (by decide +kernel)
set_option maxRecDepth 20000 in
theorem gX12_copy_X12_in : GoodIn wsX12_copy (va_wsS RX12 91 yX12_in wsX12_in) := goodIn_app (goodIn_of _ (by decide +kernel)) ggX12_copy_X12_in
set_option maxRecDepth 20000 in
theorem ggX12_copy_X12_no : GoodIn wsX12_copy wsX12_no := goodIn_r _ [16, 2, 20, 21, 22, 23, 24, 25, 26, 27, 28, 29, 30, 31, 32, 33, 34, 35, 36, 37, 38, 39, 40, 41, 42, 43, 44, 45, 46, 47, 48, 49, 50, 51, 52, 53] (by decide +kernel) (by decide +kernel)
set_option maxRecDepth 20000 in
theorem gX12_copy_X12_no : GoodIn wsX12_copy (wsV RX12 245 RX12 yX12_no wsX12_no) := goodIn_app (goodIn_of _ (by decide +kernel)) ggX12_copy_X12_no
set_option maxRecDepth 20000 in
theorem ggX12_item_X12_wrong : GoodIn wsX12_item wsX12_wrong := goodIn_r _ [8, 9, 10, 11, 12, 13, 14, 15, 16, 7, 17, 18, 19, 20, 21, 22, 23, 24, 25, 26, 27, 28, 29, 30, 31, 32, 33, 34, 35, 36, 37, 38, 39, 40, 41, 42, 43, 44, 45, 46, 47, 48, 49, 50, 51] (by decide +kernel) (by decide +kernel)
set_option maxRecDepth 20000 in
theorem gX12_item_X12_wrong : GoodIn wsX12_item (wsV RX12 248 RX12 yX12_wrong wsX12_wrong) := goodIn_app (goodIn_of _ (by decide +kernel)) ggX12_item_X12_wrong
set_option maxRecDepth 20000 in
theorem ggX12_read_X12_in : GoodIn wsX12_read wsX12_in := goodIn_r _ [11] (by decide +kernel) (by decide +kernel)
set_option maxRecDepth 20000 in
theorem gX12_read_X12_in : GoodIn wsX12_read (va_wsS RX12 91 yX12_in wsX12_in) := goodIn_app (goodIn_of _ (by decide +kernel)) ggX12_read_X12_in
set_option maxRecDepth 20000 in
theorem ggX12_read_X12_no : GoodIn wsX12_read wsX12_no := goodIn_r _ [15, 2, 45, 46, 47, 48, 49, 50, 51, 52, 53, 54, 55, 56, 57, 58, 59, 60, 61, 62, 63, 64, 65, 66, 67, 68, 69, 70, 71, 72, 73, 74, 75, 76, 77, 78] (by decide +kernel) (by decide +kernel)
set_option maxRecDepth 20000 in
theorem gX12_read_X12_no : GoodIn wsX12_read (wsV RX12 245 RX12 yX12_no wsX12_no) := goodIn_app (goodIn_of _ (by decide +kernel)) ggX12_read_X12_no
set_option maxRecDepth 20000 in
theorem ggX12_about_X12_isWhole : GoodIn wsX12_about wsX12_isWhole := goodIn_r _ [10, 4, 2, 3, 11, 12, 13, 14, 15, 16, 17, 18, 19, 20, 21, 22, 23, 24, 25, 26, 27, 28, 29, 30, 31, 32, 33, 34, 35, 36, 37, 38, 39, 40, 41, 42, 43, 44, 45] (by decide +kernel) (by decide +kernel)
set_option maxRecDepth 20000 in
theorem gX12_about_X12_isWhole : GoodIn wsX12_about (wsV RX12 225 RX12 yX12_isWhole wsX12_isWhole) := goodIn_app (goodIn_of _ (by decide +kernel)) ggX12_about_X12_isWhole
