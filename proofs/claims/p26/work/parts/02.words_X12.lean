set_option maxRecDepth 20000 in
theorem ggX12_isPlace_X12_in : GoodIn wsX12_isPlace wsX12_in := goodIn_r _ [5] (by decide +kernel) (by decide +kernel)
set_option maxRecDepth 20000 in
theorem gX12_isPlace_X12_in : GoodIn wsX12_isPlace (va_wsS RX12 91 yX12_in wsX12_in) := goodIn_app (goodIn_of _ (by decide +kernel)) ggX12_isPlace_X12_in
set_option maxRecDepth 20000 in
theorem ggX12_isLine_X12_in : GoodIn wsX12_isLine wsX12_in := goodIn_r _ [5] (by decide +kernel) (by decide +kernel)
set_option maxRecDepth 20000 in
theorem gX12_isLine_X12_in : GoodIn wsX12_isLine (va_wsS RX12 91 yX12_in wsX12_in) := goodIn_app (goodIn_of _ (by decide +kernel)) ggX12_isLine_X12_in
set_option maxRecDepth 20000 in
theorem ggX12_arePlaces_X12_isPlace : GoodIn wsX12_arePlaces wsX12_isPlace := goodIn_r _ [5, 6, 7, 8, 4, 9, 10, 11, 12, 13, 14, 15, 16, 17, 18, 19, 20, 21, 22, 23, 24, 25, 26, 27, 28, 29, 30, 31, 32, 33, 34, 35, 36, 37, 38, 39, 40, 41, 42, 43] (by decide +kernel) (by decide +kernel)
set_option maxRecDepth 20000 in
theorem gX12_arePlaces_X12_isPlace : GoodIn wsX12_arePlaces (wsV RX12 98 RX12 yX12_isPlace wsX12_isPlace) := goodIn_app (goodIn_of _ (by decide +kernel)) ggX12_arePlaces_X12_isPlace
set_option maxRecDepth 20000 in
theorem ggX12_room_X12_lets : GoodIn wsX12_room wsX12_lets := goodIn_r _ [8, 2, 9, 10, 11, 12, 13, 14, 15, 16, 17, 18, 19, 20, 21, 22, 23, 24, 25, 26, 27, 28, 29, 30, 31, 32, 33, 34, 35, 36, 37, 38, 39, 40, 41, 42, 43] (by decide +kernel) (by decide +kernel)
set_option maxRecDepth 20000 in
theorem gX12_room_X12_lets : GoodIn wsX12_room (wsV RX12 155 RX12 yX12_lets wsX12_lets) := goodIn_app (goodIn_of _ (by decide +kernel)) ggX12_room_X12_lets
set_option maxRecDepth 20000 in
theorem ggX12_sizeOf_X12_room : GoodIn wsX12_sizeOf wsX12_room := goodIn_r _ [10, 11, 12, 5, 13, 14, 15, 9, 16, 17, 18, 19, 20, 21, 22, 23, 24, 25, 26, 27, 28, 29, 30, 31, 32, 33, 34, 35, 36, 37, 38, 39, 40, 41, 42, 43, 44, 45, 46, 47, 48, 49, 50, 51] (by decide +kernel) (by decide +kernel)
set_option maxRecDepth 20000 in
theorem gX12_sizeOf_X12_room : GoodIn wsX12_sizeOf (wsV RX12 160 RX12 yX12_room wsX12_room) := goodIn_app (goodIn_of _ (by decide +kernel)) ggX12_sizeOf_X12_room
set_option maxRecDepth 20000 in
theorem ggX12_mostOf_X12_sizeOf : GoodIn wsX12_mostOf wsX12_sizeOf := goodIn_r _ [7, 8, 9, 10, 11, 1, 12, 13, 14, 6, 15, 16, 17, 18, 19, 20, 21, 22, 23, 24, 25, 26, 27, 28, 29, 30, 31, 32, 33, 34, 35, 36, 37, 38, 39, 40, 41, 42, 43, 44, 45, 46, 47, 48, 49, 50, 51, 52, 53, 54, 55, 56] (by decide +kernel) (by decide +kernel)
set_option maxRecDepth 20000 in
theorem gX12_mostOf_X12_sizeOf : GoodIn wsX12_mostOf (wsV RX12 163 RX12 yX12_sizeOf wsX12_sizeOf) := goodIn_app (goodIn_of _ (by decide +kernel)) ggX12_mostOf_X12_sizeOf
set_option maxRecDepth 20000 in
theorem ggX12_most_X12_arePlaces : GoodIn wsX12_most wsX12_arePlaces := goodIn_r _ [6, 7, 8, 9, 5, 10, 11, 12, 13, 14, 42, 43, 44, 45, 46, 47, 48, 49, 50, 51, 52, 53, 54, 55, 56, 57, 58, 59, 60, 61, 62, 63, 64, 65, 66, 67, 68, 69, 70, 71, 72, 73, 74, 75] (by decide +kernel) (by decide +kernel)
set_option maxRecDepth 20000 in
theorem gX12_most_X12_arePlaces : GoodIn wsX12_most (wsV RX12 143 RX12 yX12_arePlaces wsX12_arePlaces) := goodIn_app (goodIn_of _ (by decide +kernel)) ggX12_most_X12_arePlaces
set_option maxRecDepth 20000 in
theorem ggX12_most_X12_mostOf : GoodIn wsX12_most wsX12_mostOf := goodIn_r _ [18, 19, 11, 20, 21, 22, 5, 23, 24, 25, 26, 27, 28, 29, 30, 31, 32, 33, 34, 35, 36, 37, 38, 42, 43, 44, 45, 46, 47, 48, 49, 50, 51, 52, 53, 54, 55, 56, 57, 58, 59, 60, 61, 62, 63, 64, 65, 66, 67, 68, 69, 70, 71, 72, 73, 74, 75] (by decide +kernel) (by decide +kernel)
set_option maxRecDepth 20000 in
theorem gX12_most_X12_mostOf : GoodIn wsX12_most (wsV RX12 166 RX12 yX12_mostOf wsX12_mostOf) := goodIn_app (goodIn_of _ (by decide +kernel)) ggX12_most_X12_mostOf
set_option maxRecDepth 20000 in
theorem ggX12_most_X12_asTold : GoodIn wsX12_most wsX12_asTold := goodIn_r _ [41, 19] (by decide +kernel) (by decide +kernel)
set_option maxRecDepth 20000 in
theorem gX12_most_X12_asTold : GoodIn wsX12_most (va_wsS RX12 170 yX12_asTold wsX12_asTold) := goodIn_app (goodIn_of _ (by decide +kernel)) ggX12_most_X12_asTold
set_option maxRecDepth 20000 in
theorem ggX12_cutsOf_X12_sizeOf : GoodIn wsX12_cutsOf wsX12_sizeOf := goodIn_r _ [10, 11, 12, 13, 14, 15, 16, 17, 18, 9, 19, 20, 21, 22, 23, 24, 25, 26, 30, 31, 32, 33, 34, 35, 36, 37, 38, 39, 40, 41, 42, 43, 44, 45, 46, 47, 48, 49, 50, 51, 52, 53, 54, 55, 56, 57, 58, 59, 60, 61, 62, 63] (by decide +kernel) (by decide +kernel)
set_option maxRecDepth 20000 in
theorem gX12_cutsOf_X12_sizeOf : GoodIn wsX12_cutsOf (wsV RX12 163 RX12 yX12_sizeOf wsX12_sizeOf) := goodIn_app (goodIn_of _ (by decide +kernel)) ggX12_cutsOf_X12_sizeOf
set_option maxRecDepth 20000 in
theorem ggX12_cutsOf_X12_bitsOf : GoodIn wsX12_cutsOf wsX12_bitsOf := goodIn_r _ [29] (by decide +kernel) (by decide +kernel)
set_option maxRecDepth 20000 in
theorem gX12_cutsOf_X12_bitsOf : GoodIn wsX12_cutsOf (va_wsS RX12 204 yX12_bitsOf wsX12_bitsOf) := goodIn_app (goodIn_of _ (by decide +kernel)) ggX12_cutsOf_X12_bitsOf
set_option maxRecDepth 20000 in
theorem ggX12_cut_X12_arePlaces : GoodIn wsX12_cut wsX12_arePlaces := goodIn_r _ [9, 10, 11, 12, 8, 13, 14, 15, 16, 17, 50, 51, 52, 53, 54, 55, 56, 57, 58, 59, 60, 61, 62, 63, 64, 65, 66, 67, 68, 69, 70, 71, 72, 73, 74, 75, 76, 77, 78, 79, 80, 81, 82, 83] (by decide +kernel) (by decide +kernel)
set_option maxRecDepth 20000 in
theorem gX12_cut_X12_arePlaces : GoodIn wsX12_cut (wsV RX12 143 RX12 yX12_arePlaces wsX12_arePlaces) := goodIn_app (goodIn_of _ (by decide +kernel)) ggX12_cut_X12_arePlaces
set_option maxRecDepth 20000 in
theorem ggX12_cut_X12_in : GoodIn wsX12_cut wsX12_in := goodIn_r _ [17] (by decide +kernel) (by decide +kernel)
set_option maxRecDepth 20000 in
theorem gX12_cut_X12_in : GoodIn wsX12_cut (va_wsS RX12 91 yX12_in wsX12_in) := goodIn_app (goodIn_of _ (by decide +kernel)) ggX12_cut_X12_in
set_option maxRecDepth 20000 in
theorem ggX12_cut_X12_mostOf : GoodIn wsX12_cut wsX12_mostOf := goodIn_r _ [21, 2, 14, 22, 23, 24, 8, 25, 26, 27, 28, 29, 30, 31, 32, 33, 34, 35, 36, 37, 38, 39, 40, 50, 51, 52, 53, 54, 55, 56, 57, 58, 59, 60, 61, 62, 63, 64, 65, 66, 67, 68, 69, 70, 71, 72, 73, 74, 75, 76, 77, 78, 79, 80, 81, 82, 83] (by decide +kernel) (by decide +kernel)
set_option maxRecDepth 20000 in
theorem gX12_cut_X12_mostOf : GoodIn wsX12_cut (wsV RX12 166 RX12 yX12_mostOf wsX12_mostOf) := goodIn_app (goodIn_of _ (by decide +kernel)) ggX12_cut_X12_mostOf
set_option maxRecDepth 20000 in
theorem ggX12_cut_X12_cutsOf : GoodIn wsX12_cut wsX12_cutsOf := goodIn_r _ [44, 45, 3, 4, 46, 14, 22, 23, 24, 8, 25, 26, 27, 28, 29, 2, 30, 31, 32, 33, 34, 35, 36, 37, 38, 39, 40, 47, 48, 49, 50, 51, 52, 53, 54, 55, 56, 57, 58, 59, 60, 61, 62, 63, 64, 65, 66, 67, 68, 69, 70, 71, 72, 73, 74, 75, 76, 77, 78, 79, 80, 81, 82, 83] (by decide +kernel) (by decide +kernel)
set_option maxRecDepth 20000 in
theorem gX12_cut_X12_cutsOf : GoodIn wsX12_cut (wsV RX12 207 RX12 yX12_cutsOf wsX12_cutsOf) := goodIn_app (goodIn_of _ (by decide +kernel)) ggX12_cut_X12_cutsOf
set_option maxRecDepth 20000 in
theorem ggX12_count_X12_arePlaces : GoodIn wsX12_count wsX12_arePlaces := goodIn_r _ [8, 9, 10, 11, 7, 12, 13, 14, 15, 16, 50, 51, 52, 53, 54, 55, 56, 57, 58, 59, 60, 61, 62, 63, 64, 65, 66, 67, 68, 69, 70, 71, 72, 73, 74, 75, 76, 77, 78, 79, 80, 81, 82, 83] (by decide +kernel) (by decide +kernel)
set_option maxRecDepth 20000 in
theorem gX12_count_X12_arePlaces : GoodIn wsX12_count (wsV RX12 143 RX12 yX12_arePlaces wsX12_arePlaces) := goodIn_app (goodIn_of _ (by decide +kernel)) ggX12_count_X12_arePlaces
set_option maxRecDepth 20000 in
theorem ggX12_count_X12_mostOf : GoodIn wsX12_count wsX12_mostOf := goodIn_r _ [20, 2, 13, 21, 22, 23, 7, 24, 25, 26, 27, 28, 29, 30, 31, 32, 33, 34, 35, 36, 37, 38, 39, 50, 51, 52, 53, 54, 55, 56, 57, 58, 59, 60, 61, 62, 63, 64, 65, 66, 67, 68, 69, 70, 71, 72, 73, 74, 75, 76, 77, 78, 79, 80, 81, 82, 83] (by decide +kernel) (by decide +kernel)
set_option maxRecDepth 20000 in
theorem gX12_count_X12_mostOf : GoodIn wsX12_count (wsV RX12 166 RX12 yX12_mostOf wsX12_mostOf) := goodIn_app (goodIn_of _ (by decide +kernel)) ggX12_count_X12_mostOf
set_option maxRecDepth 20000 in
theorem ggX12_count_X12_cutsOf : GoodIn wsX12_count wsX12_cutsOf := goodIn_r _ [43, 3, 44, 45, 46, 13, 21, 22, 23, 7, 24, 25, 26, 27, 28, 2, 29, 30, 31, 32, 33, 34, 35, 36, 37, 38, 39, 47, 48, 49, 50, 51, 52, 53, 54, 55, 56, 57, 58, 59, 60, 61, 62, 63, 64, 65, 66, 67, 68, 69, 70, 71, 72, 73, 74, 75, 76, 77, 78, 79, 80, 81, 82, 83] (by decide +kernel) (by decide +kernel)
set_option maxRecDepth 20000 in
theorem gX12_count_X12_cutsOf : GoodIn wsX12_count (wsV RX12 207 RX12 yX12_cutsOf wsX12_cutsOf) := goodIn_app (goodIn_of _ (by decide +kernel)) ggX12_count_X12_cutsOf
set_option maxRecDepth 20000 in
theorem ggX12_next_X12_arePlaces : GoodIn wsX12_next wsX12_arePlaces := goodIn_r _ [8, 9, 10, 11, 7, 12, 13, 14, 15, 16, 50, 51, 52, 53, 54, 55, 56, 57, 58, 59, 60, 61, 62, 63, 64, 65, 66, 67, 68, 69, 70, 71, 72, 73, 74, 75, 76, 77, 78, 79, 80, 81, 82, 83] (by decide +kernel) (by decide +kernel)
set_option maxRecDepth 20000 in
theorem gX12_next_X12_arePlaces : GoodIn wsX12_next (wsV RX12 143 RX12 yX12_arePlaces wsX12_arePlaces) := goodIn_app (goodIn_of _ (by decide +kernel)) ggX12_next_X12_arePlaces
set_option maxRecDepth 20000 in
theorem ggX12_next_X12_mostOf : GoodIn wsX12_next wsX12_mostOf := goodIn_r _ [20, 2, 13, 21, 22, 23, 7, 24, 25, 26, 27, 28, 29, 30, 31, 32, 33, 34, 35, 36, 37, 38, 39, 50, 51, 52, 53, 54, 55, 56, 57, 58, 59, 60, 61, 62, 63, 64, 65, 66, 67, 68, 69, 70, 71, 72, 73, 74, 75, 76, 77, 78, 79, 80, 81, 82, 83] (by decide +kernel) (by decide +kernel)
set_option maxRecDepth 20000 in
theorem gX12_next_X12_mostOf : GoodIn wsX12_next (wsV RX12 166 RX12 yX12_mostOf wsX12_mostOf) := goodIn_app (goodIn_of _ (by decide +kernel)) ggX12_next_X12_mostOf
set_option maxRecDepth 20000 in
theorem ggX12_next_X12_cutsOf : GoodIn wsX12_next wsX12_cutsOf := goodIn_r _ [43, 44, 45, 46, 3, 13, 21, 22, 23, 7, 24, 25, 26, 27, 28, 2, 29, 30, 31, 32, 33, 34, 35, 36, 37, 38, 39, 47, 48, 49, 50, 51, 52, 53, 54, 55, 56, 57, 58, 59, 60, 61, 62, 63, 64, 65, 66, 67, 68, 69, 70, 71, 72, 73, 74, 75, 76, 77, 78, 79, 80, 81, 82, 83] (by decide +kernel) (by decide +kernel)
set_option maxRecDepth 20000 in
theorem gX12_next_X12_cutsOf : GoodIn wsX12_next (wsV RX12 207 RX12 yX12_cutsOf wsX12_cutsOf) := goodIn_app (goodIn_of _ (by decide +kernel)) ggX12_next_X12_cutsOf
set_option maxRecDepth 20000 in
theorem ggX12_size_X12_arePlaces : GoodIn wsX12_size wsX12_arePlaces := goodIn_r _ [7, 8, 9, 10, 6, 11, 2, 12, 13, 14, 38, 39, 40, 41, 42, 43, 44, 45, 46, 47, 48, 49, 50, 51, 52, 53, 54, 55, 56, 57, 58, 59, 60, 61, 62, 63, 64, 65, 66, 67, 68, 69, 70, 71] (by decide +kernel) (by decide +kernel)
set_option maxRecDepth 20000 in
theorem gX12_size_X12_arePlaces : GoodIn wsX12_size (wsV RX12 143 RX12 yX12_arePlaces wsX12_arePlaces) := goodIn_app (goodIn_of _ (by decide +kernel)) ggX12_size_X12_arePlaces
set_option maxRecDepth 20000 in
theorem ggX12_size_X12_sizeOf : GoodIn wsX12_size wsX12_sizeOf := goodIn_r _ [18, 19, 20, 21, 22, 23, 24, 25, 26, 6, 27, 28, 29, 30, 31, 32, 33, 34, 38, 39, 40, 41, 42, 43, 44, 45, 46, 47, 48, 49, 50, 51, 52, 53, 54, 55, 56, 57, 58, 59, 60, 61, 62, 63, 64, 65, 66, 67, 68, 69, 70, 71] (by decide +kernel) (by decide +kernel)
set_option maxRecDepth 20000 in
theorem gX12_size_X12_sizeOf : GoodIn wsX12_size (wsV RX12 163 RX12 yX12_sizeOf wsX12_sizeOf) := goodIn_app (goodIn_of _ (by decide +kernel)) ggX12_size_X12_sizeOf
set_option maxRecDepth 20000 in
theorem ggX12_size_X12_asTold : GoodIn wsX12_size wsX12_asTold := goodIn_r _ [37, 23] (by decide +kernel) (by decide +kernel)
set_option maxRecDepth 20000 in
theorem gX12_size_X12_asTold : GoodIn wsX12_size (va_wsS RX12 170 yX12_asTold wsX12_asTold) := goodIn_app (goodIn_of _ (by decide +kernel)) ggX12_size_X12_asTold
set_option maxRecDepth 20000 in
theorem ggX12_raise_X12_arePlaces : GoodIn wsX12_raise wsX12_arePlaces := goodIn_r _ [8, 9, 10, 11, 7, 12, 13, 14, 15, 16, 46, 47, 48, 49, 50, 51, 52, 53, 54, 55, 56, 57, 58, 59, 60, 61, 62, 63, 64, 65, 66, 67, 68, 69, 70, 71, 72, 73, 74, 75, 76, 77, 78, 79] (by decide +kernel) (by decide +kernel)
set_option maxRecDepth 20000 in
theorem gX12_raise_X12_arePlaces : GoodIn wsX12_raise (wsV RX12 143 RX12 yX12_arePlaces wsX12_arePlaces) := goodIn_app (goodIn_of _ (by decide +kernel)) ggX12_raise_X12_arePlaces
set_option maxRecDepth 20000 in
theorem ggX12_raise_X12_isLine : GoodIn wsX12_raise wsX12_isLine := goodIn_r _ [20, 21, 14, 15, 7, 16, 46, 47, 48, 49, 50, 51, 52, 53, 54, 55, 56, 57, 58, 59, 60, 61, 62, 63, 64, 65, 66, 67, 68, 69, 70, 71, 72, 73, 74, 75, 76, 77, 78, 79] (by decide +kernel) (by decide +kernel)
set_option maxRecDepth 20000 in
theorem gX12_raise_X12_isLine : GoodIn wsX12_raise (wsV RX12 132 RX12 yX12_isLine wsX12_isLine) := goodIn_app (goodIn_of _ (by decide +kernel)) ggX12_raise_X12_isLine
set_option maxRecDepth 20000 in
theorem ggX12_raise_X12_mostOf : GoodIn wsX12_raise wsX12_mostOf := goodIn_r _ [25, 26, 13, 27, 28, 29, 7, 30, 21, 2, 31, 32, 33, 34, 35, 36, 3, 37, 38, 39, 40, 41, 42, 46, 47, 48, 49, 50, 51, 52, 53, 54, 55, 56, 57, 58, 59, 60, 61, 62, 63, 64, 65, 66, 67, 68, 69, 70, 71, 72, 73, 74, 75, 76, 77, 78, 79] (by decide +kernel) (by decide +kernel)
set_option maxRecDepth 20000 in
theorem gX12_raise_X12_mostOf : GoodIn wsX12_raise (wsV RX12 166 RX12 yX12_mostOf wsX12_mostOf) := goodIn_app (goodIn_of _ (by decide +kernel)) ggX12_raise_X12_mostOf
set_option maxRecDepth 20000 in
theorem ggX12_raise_X12_asTold : GoodIn wsX12_raise wsX12_asTold := goodIn_r _ [45, 26] (by decide +kernel) (by decide +kernel)
set_option maxRecDepth 20000 in
theorem gX12_raise_X12_asTold : GoodIn wsX12_raise (va_wsS RX12 170 yX12_asTold wsX12_asTold) := goodIn_app (goodIn_of _ (by decide +kernel)) ggX12_raise_X12_asTold
set_option maxRecDepth 20000 in
theorem ggX12_between_X12_isWhole : GoodIn wsX12_between wsX12_isWhole := goodIn_r _ [6, 7, 8, 9, 10, 43, 44, 45, 46, 47, 48, 49, 50, 51, 52, 53, 54, 55, 56, 57, 58, 59, 60, 61, 62, 63, 64, 65, 66, 67, 68, 69, 70, 71, 72, 73, 74, 75, 76] (by decide +kernel) (by decide +kernel)
set_option maxRecDepth 20000 in
theorem gX12_between_X12_isWhole : GoodIn wsX12_between (wsV RX12 225 RX12 yX12_isWhole wsX12_isWhole) := goodIn_app (goodIn_of _ (by decide +kernel)) ggX12_between_X12_isWhole
set_option maxRecDepth 20000 in
theorem ggX12_between_X12_arePlaces : GoodIn wsX12_between wsX12_arePlaces := goodIn_r _ [14, 15, 16, 17, 5, 18, 7, 19, 20, 21, 43, 44, 45, 46, 47, 48, 49, 50, 51, 52, 53, 54, 55, 56, 57, 58, 59, 60, 61, 62, 63, 64, 65, 66, 67, 68, 69, 70, 71, 72, 73, 74, 75, 76] (by decide +kernel) (by decide +kernel)
set_option maxRecDepth 20000 in
theorem gX12_between_X12_arePlaces : GoodIn wsX12_between (wsV RX12 143 RX12 yX12_arePlaces wsX12_arePlaces) := goodIn_app (goodIn_of _ (by decide +kernel)) ggX12_between_X12_arePlaces
set_option maxRecDepth 20000 in
theorem ggX12_between_X12_mostOf : GoodIn wsX12_between wsX12_mostOf := goodIn_r _ [25, 26, 7, 27, 28, 29, 5, 30, 8, 9, 31, 32, 33, 34, 35, 36, 37, 10, 38, 39, 40, 41, 42, 43, 44, 45, 46, 47, 48, 49, 50, 51, 52, 53, 54, 55, 56, 57, 58, 59, 60, 61, 62, 63, 64, 65, 66, 67, 68, 69, 70, 71, 72, 73, 74, 75, 76] (by decide +kernel) (by decide +kernel)
set_option maxRecDepth 20000 in
theorem gX12_between_X12_mostOf : GoodIn wsX12_between (wsV RX12 166 RX12 yX12_mostOf wsX12_mostOf) := goodIn_app (goodIn_of _ (by decide +kernel)) ggX12_between_X12_mostOf
set_option maxRecDepth 20000 in
theorem ggX12_leastOf_X12_mostOf : GoodIn wsX12_leastOf wsX12_mostOf := goodIn_r _ [7, 1, 2, 8, 9, 10, 6, 11, 12, 13, 14, 15, 16, 17, 18, 19, 20, 21, 22, 23, 24, 25, 26, 27, 28, 29, 30, 31, 32, 33, 34, 35, 36, 37, 38, 39, 40, 41, 42, 43, 44, 45, 46, 47, 48, 49, 50, 51, 52, 53, 54, 55, 56, 57, 58, 59, 60] (by decide +kernel) (by decide +kernel)
set_option maxRecDepth 20000 in
theorem gX12_leastOf_X12_mostOf : GoodIn wsX12_leastOf (wsV RX12 166 RX12 yX12_mostOf wsX12_mostOf) := goodIn_app (goodIn_of _ (by decide +kernel)) ggX12_leastOf_X12_mostOf
set_option maxRecDepth 20000 in
theorem ggX12_least_X12_isWhole : GoodIn wsX12_least wsX12_isWhole := goodIn_r _ [6, 7, 8, 9, 10, 36, 37, 38, 39, 40, 41, 42, 43, 44, 45, 46, 47, 48, 49, 50, 51, 52, 53, 54, 55, 56, 57, 58, 59, 60, 61, 62, 63, 64, 65, 66, 67, 68, 69] (by decide +kernel) (by decide +kernel)
set_option maxRecDepth 20000 in
theorem gX12_least_X12_isWhole : GoodIn wsX12_least (wsV RX12 225 RX12 yX12_isWhole wsX12_isWhole) := goodIn_app (goodIn_of _ (by decide +kernel)) ggX12_least_X12_isWhole
set_option maxRecDepth 20000 in
theorem ggX12_least_X12_leastOf : GoodIn wsX12_least wsX12_leastOf := goodIn_r _ [14, 15, 7, 16, 17, 18, 5, 19, 20, 21, 22, 23, 8, 9, 24, 25, 26, 27, 28, 29, 30, 10, 31, 32, 33, 34, 35, 36, 37, 38, 39, 40, 41, 42, 43, 44, 45, 46, 47, 48, 49, 50, 51, 52, 53, 54, 55, 56, 57, 58, 59, 60, 61, 62, 63, 64, 65, 66, 67, 68, 69] (by decide +kernel) (by decide +kernel)
set_option maxRecDepth 20000 in
theorem gX12_least_X12_leastOf : GoodIn wsX12_least (wsV RX12 232 RX12 yX12_leastOf wsX12_leastOf) := goodIn_app (goodIn_of _ (by decide +kernel)) ggX12_least_X12_leastOf
set_option maxRecDepth 20000 in
theorem ggX12_wholeCuts_X12_leastOf : GoodIn wsX12_wholeCuts wsX12_leastOf := goodIn_r _ [8, 9, 3, 10, 11, 12, 7, 13, 14, 15, 16, 17, 18, 19, 20, 21, 22, 23, 24, 25, 26, 27, 28, 29, 30, 31, 32, 33, 34, 35, 36, 37, 38, 39, 40, 41, 42, 43, 44, 45, 46, 47, 48, 49, 50, 51, 52, 53, 54, 55, 56, 57, 58, 59, 60, 61, 62, 63, 64, 65, 66] (by decide +kernel) (by decide +kernel)
set_option maxRecDepth 20000 in
theorem gX12_wholeCuts_X12_leastOf : GoodIn wsX12_wholeCuts (wsV RX12 232 RX12 yX12_leastOf wsX12_leastOf) := goodIn_app (goodIn_of _ (by decide +kernel)) ggX12_wholeCuts_X12_leastOf
set_option maxRecDepth 20000 in
theorem ggX12_wholeCuts_X12_sizeOf : GoodIn wsX12_wholeCuts wsX12_sizeOf := goodIn_r _ [17, 18, 19, 20, 21, 9, 22, 23, 24, 7, 25, 26, 27, 28, 29, 30, 31, 32, 33, 34, 35, 36, 37, 38, 39, 40, 41, 42, 43, 44, 45, 46, 47, 48, 49, 50, 51, 52, 53, 54, 55, 56, 57, 58, 59, 60, 61, 62, 63, 64, 65, 66] (by decide +kernel) (by decide +kernel)
set_option maxRecDepth 20000 in
theorem gX12_wholeCuts_X12_sizeOf : GoodIn wsX12_wholeCuts (wsV RX12 163 RX12 yX12_sizeOf wsX12_sizeOf) := goodIn_app (goodIn_of _ (by decide +kernel)) ggX12_wholeCuts_X12_sizeOf
set_option maxRecDepth 20000 in
theorem ggX12_cuts_X12_isWhole : GoodIn wsX12_cuts wsX12_isWhole := goodIn_r _ [7, 8, 9, 10, 11, 42, 43, 44, 45, 46, 47, 48, 49, 50, 51, 52, 53, 54, 55, 56, 57, 58, 59, 60, 61, 62, 63, 64, 65, 66, 67, 68, 69, 70, 71, 72, 73, 74, 75] (by decide +kernel) (by decide +kernel)
set_option maxRecDepth 20000 in
theorem gX12_cuts_X12_isWhole : GoodIn wsX12_cuts (wsV RX12 225 RX12 yX12_isWhole wsX12_isWhole) := goodIn_app (goodIn_of _ (by decide +kernel)) ggX12_cuts_X12_isWhole
set_option maxRecDepth 20000 in
theorem ggX12_cuts_X12_wholeCuts : GoodIn wsX12_cuts wsX12_wholeCuts := goodIn_r _ [15, 2, 16, 8, 17, 18, 19, 6, 20, 21, 22, 23, 24, 25, 26, 27, 28, 29, 9, 10, 30, 31, 32, 33, 34, 35, 36, 11, 37, 38, 39, 40, 41, 42, 43, 44, 45, 46, 47, 48, 49, 50, 51, 52, 53, 54, 55, 56, 57, 58, 59, 60, 61, 62, 63, 64, 65, 66, 67, 68, 69, 70, 71, 72, 73, 74, 75] (by decide +kernel) (by decide +kernel)
set_option maxRecDepth 20000 in
theorem gX12_cuts_X12_wholeCuts : GoodIn wsX12_cuts (wsV RX12 236 RX12 yX12_wholeCuts wsX12_wholeCuts) := goodIn_app (goodIn_of _ (by decide +kernel)) ggX12_cuts_X12_wholeCuts
set_option maxRecDepth 20000 in
theorem ggX12_cutAt_X12_isWhole : GoodIn wsX12_cutAt wsX12_isWhole := goodIn_r _ [7, 8, 9, 10, 11, 42, 43, 44, 45, 46, 47, 48, 49, 50, 51, 52, 53, 54, 55, 56, 57, 58, 59, 60, 61, 62, 63, 64, 65, 66, 67, 68, 69, 70, 71, 72, 73, 74, 75] (by decide +kernel) (by decide +kernel)
set_option maxRecDepth 20000 in
theorem gX12_cutAt_X12_isWhole : GoodIn wsX12_cutAt (wsV RX12 225 RX12 yX12_isWhole wsX12_isWhole) := goodIn_app (goodIn_of _ (by decide +kernel)) ggX12_cutAt_X12_isWhole
set_option maxRecDepth 20000 in
theorem ggX12_cutAt_X12_wholeCuts : GoodIn wsX12_cutAt wsX12_wholeCuts := goodIn_r _ [15, 16, 2, 8, 17, 18, 19, 6, 20, 21, 22, 23, 24, 25, 26, 27, 28, 29, 9, 10, 30, 31, 32, 33, 34, 35, 36, 11, 37, 38, 39, 40, 41, 42, 43, 44, 45, 46, 47, 48, 49, 50, 51, 52, 53, 54, 55, 56, 57, 58, 59, 60, 61, 62, 63, 64, 65, 66, 67, 68, 69, 70, 71, 72, 73, 74, 75] (by decide +kernel) (by decide +kernel)
set_option maxRecDepth 20000 in
theorem gX12_cutAt_X12_wholeCuts : GoodIn wsX12_cutAt (wsV RX12 236 RX12 yX12_wholeCuts wsX12_wholeCuts) := goodIn_app (goodIn_of _ (by decide +kernel)) ggX12_cutAt_X12_wholeCuts
set_option maxRecDepth 20000 in
theorem ggX12_weak_X12_isLine : GoodIn wsX12_weak wsX12_isLine := goodIn_r _ [10, 11, 12, 13, 9, 14, 43, 44, 45, 46, 47, 48, 49, 50, 51, 52, 53, 54, 55, 56, 57, 58, 59, 60, 61, 62, 63, 64, 65, 66, 67, 68, 69, 70, 71, 72, 73, 74, 75, 76] (by decide +kernel) (by decide +kernel)
set_option maxRecDepth 20000 in
theorem gX12_weak_X12_isLine : GoodIn wsX12_weak (wsV RX12 132 RX12 yX12_isLine wsX12_isLine) := goodIn_app (goodIn_of _ (by decide +kernel)) ggX12_weak_X12_isLine
set_option maxRecDepth 20000 in
theorem ggX12_weak_X12_isWhole : GoodIn wsX12_weak wsX12_isWhole := goodIn_r _ [18, 3, 11, 2, 19, 43, 44, 45, 46, 47, 48, 49, 50, 51, 52, 53, 54, 55, 56, 57, 58, 59, 60, 61, 62, 63, 64, 65, 66, 67, 68, 69, 70, 71, 72, 73, 74, 75, 76] (by decide +kernel) (by decide +kernel)
set_option maxRecDepth 20000 in
theorem gX12_weak_X12_isWhole : GoodIn wsX12_weak (wsV RX12 225 RX12 yX12_isWhole wsX12_isWhole) := goodIn_app (goodIn_of _ (by decide +kernel)) ggX12_weak_X12_isWhole
set_option maxRecDepth 20000 in
theorem ggX12_weak_X12_leastOf : GoodIn wsX12_weak wsX12_leastOf := goodIn_r _ [23, 24, 3, 25, 26, 27, 9, 28, 29, 30, 31, 32, 11, 2, 4, 5, 33, 34, 35, 36, 37, 19, 38, 39, 40, 41, 42, 43, 44, 45, 46, 47, 48, 49, 50, 51, 52, 53, 54, 55, 56, 57, 58, 59, 60, 61, 62, 63, 64, 65, 66, 67, 68, 69, 70, 71, 72, 73, 74, 75, 76] (by decide +kernel) (by decide +kernel)
set_option maxRecDepth 20000 in
theorem gX12_weak_X12_leastOf : GoodIn wsX12_weak (wsV RX12 232 RX12 yX12_leastOf wsX12_leastOf) := goodIn_app (goodIn_of _ (by decide +kernel)) ggX12_weak_X12_leastOf
set_option maxRecDepth 20000 in
theorem ggX12_weak_X12_sizeOf : GoodIn wsX12_weak wsX12_sizeOf := goodIn_r _ [32, 11, 2, 4, 5, 24, 33, 34, 35, 9, 36, 37, 19, 38, 39, 40, 41, 42, 43, 44, 45, 46, 47, 48, 49, 50, 51, 52, 53, 54, 55, 56, 57, 58, 59, 60, 61, 62, 63, 64, 65, 66, 67, 68, 69, 70, 71, 72, 73, 74, 75, 76] (by decide +kernel) (by decide +kernel)
set_option maxRecDepth 20000 in
theorem gX12_weak_X12_sizeOf : GoodIn wsX12_weak (wsV RX12 163 RX12 yX12_sizeOf wsX12_sizeOf) := goodIn_app (goodIn_of _ (by decide +kernel)) ggX12_weak_X12_sizeOf
set_option maxRecDepth 20000 in
theorem ggX12_part_X12_isWhole : GoodIn wsX12_part wsX12_isWhole := goodIn_r _ [7, 2, 8, 9, 10, 39, 40, 41, 42, 43, 44, 45, 46, 47, 48, 49, 50, 51, 52, 53, 54, 55, 56, 57, 58, 59, 60, 61, 62, 63, 64, 65, 66, 67, 68, 69, 70, 71, 72] (by decide +kernel) (by decide +kernel)
set_option maxRecDepth 20000 in
theorem gX12_part_X12_isWhole : GoodIn wsX12_part (wsV RX12 225 RX12 yX12_isWhole wsX12_isWhole) := goodIn_app (goodIn_of _ (by decide +kernel)) ggX12_part_X12_isWhole
set_option maxRecDepth 20000 in
theorem ggX12_part_X12_isPlace : GoodIn wsX12_part wsX12_isPlace := goodIn_r _ [14, 2, 15, 16, 6, 17, 39, 40, 41, 42, 43, 44, 45, 46, 47, 48, 49, 50, 51, 52, 53, 54, 55, 56, 57, 58, 59, 60, 61, 62, 63, 64, 65, 66, 67, 68, 69, 70, 71, 72] (by decide +kernel) (by decide +kernel)
set_option maxRecDepth 20000 in
theorem gX12_part_X12_isPlace : GoodIn wsX12_part (wsV RX12 98 RX12 yX12_isPlace wsX12_isPlace) := goodIn_app (goodIn_of _ (by decide +kernel)) ggX12_part_X12_isPlace
set_option maxRecDepth 20000 in
theorem ggX12_part_X12_mostOf : GoodIn wsX12_part wsX12_mostOf := goodIn_r _ [21, 22, 2, 23, 24, 25, 6, 26, 8, 9, 27, 28, 29, 30, 31, 32, 33, 10, 34, 35, 36, 37, 38, 39, 40, 41, 42, 43, 44, 45, 46, 47, 48, 49, 50, 51, 52, 53, 54, 55, 56, 57, 58, 59, 60, 61, 62, 63, 64, 65, 66, 67, 68, 69, 70, 71, 72] (by decide +kernel) (by decide +kernel)
set_option maxRecDepth 20000 in
theorem gX12_part_X12_mostOf : GoodIn wsX12_part (wsV RX12 166 RX12 yX12_mostOf wsX12_mostOf) := goodIn_app (goodIn_of _ (by decide +kernel)) ggX12_part_X12_mostOf
set_option maxRecDepth 20000 in
theorem ggX12_dense_X12_in : GoodIn wsX12_dense wsX12_in := goodIn_r _ [12] (by decide +kernel) (by decide +kernel)
set_option maxRecDepth 20000 in
theorem gX12_dense_X12_in : GoodIn wsX12_dense (va_wsS RX12 91 yX12_in wsX12_in) := goodIn_app (goodIn_of _ (by decide +kernel)) ggX12_dense_X12_in
set_option maxRecDepth 20000 in
theorem ggX12_dense_X12_isWhole : GoodIn wsX12_dense wsX12_isWhole := goodIn_r _ [16, 3, 4, 5, 17, 21, 22, 23, 24, 25, 26, 27, 28, 29, 30, 31, 32, 33, 34, 35, 36, 37, 38, 39, 40, 41, 42, 43, 44, 45, 46, 47, 48, 49, 50, 51, 52, 53, 54] (by decide +kernel) (by decide +kernel)
set_option maxRecDepth 20000 in
theorem gX12_dense_X12_isWhole : GoodIn wsX12_dense (wsV RX12 225 RX12 yX12_isWhole wsX12_isWhole) := goodIn_app (goodIn_of _ (by decide +kernel)) ggX12_dense_X12_isWhole
set_option maxRecDepth 20000 in
theorem ggX12_dense_X12_bitsOf : GoodIn wsX12_dense wsX12_bitsOf := goodIn_r _ [20] (by decide +kernel) (by decide +kernel)
set_option maxRecDepth 20000 in
theorem gX12_dense_X12_bitsOf : GoodIn wsX12_dense (va_wsS RX12 204 yX12_bitsOf wsX12_bitsOf) := goodIn_app (goodIn_of _ (by decide +kernel)) ggX12_dense_X12_bitsOf
