set_option maxRecDepth 20000 in
theorem ggX12_isPlace_X12_in : GoodIn wsX12_isPlace wsX12_in := goodIn_r _ [5] (by decide +kernel) (by decide +kernel)
set_option maxRecDepth 20000 in
theorem gX12_isPlace_X12_in : GoodIn wsX12_isPlace (va_wsS RX12 91 yX12_in wsX12_in) := goodIn_app (goodIn_of _ (by decide +kernel)) ggX12_isPlace_X12_in
set_option maxRecDepth 20000 in
theorem ggX12_isLine_X12_in : GoodIn wsX12_isLine wsX12_in := goodIn_r _ [5] (by decide +kernel) (by decide +kernel)
set_option maxRecDepth 20000 in
theorem gX12_isLine_X12_in : GoodIn wsX12_isLine (va_wsS RX12 91 yX12_in wsX12_in) := goodIn_app (goodIn_of _ (by decide +kernel)) ggX12_isLine_X12_in
set_option maxRecDepth 20000 in
theorem ggX12_arePlaces_X12_isPlace : GoodIn wsX12_arePlaces wsX12_isPlace := goodIn_r _ [5, 6, 7, 8, 4, 9, 10, 11, 12, 13, 14, 15, 16, 17, 18, 19, 20, 21, 22, 23, 24, 25, 26, 27, 28, 29, 30, 31, 32, 33, 34, 35, 36, 37, 38, 39, 40, 41, 42, 43] (by decide +kernel) (by decide +kernel)
set_option maxRecDepth 20000 in
theorem gX12_arePlaces_X12_isPlace : GoodIn wsX12_arePlaces (wsV RX12 98 RX12 yX12_isPlace wsX12_isPlace) := goodIn_app (goodIn_of _ (by decide +kernel)) ggX12_arePlaces_X12_isPlace
set_option maxRecDepth 20000 in
theorem ggX12_room_X12_lets : GoodIn wsX12_room wsX12_lets := goodIn_r _ [8, 2, 9, 10, 11, 12, 13, 14, 15, 16, 17, 18, 19, 20, 21, 22, 23, 24, 25, 26, 27, 28, 29, 30, 31, 32, 33, 34, 35, 36, 37, 38, 39, 40, 41, 42, 43] (by decide +kernel) (by decide +kernel)
set_option maxRecDepth 20000 in
theorem gX12_room_X12_lets : GoodIn wsX12_room (wsV RX12 155 RX12 yX12_lets wsX12_lets) := goodIn_app (goodIn_of _ (by decide +kernel)) ggX12_room_X12_lets
set_option maxRecDepth 20000 in
theorem ggX12_sizeOf_X12_room : GoodIn wsX12_sizeOf wsX12_room := goodIn_r _ [10, 11, 12, 5, 13, 14, 15, 9, 16, 17, 18, 19, 20, 21, 22, 23, 24, 25, 26, 27, 28, 29, 30, 31, 32, 33, 34, 35, 36, 37, 38, 39, 40, 41, 42, 43, 44, 45, 46, 47, 48, 49, 50, 51] (by decide +kernel) (by decide +kernel)
set_option maxRecDepth 20000 in
theorem gX12_sizeOf_X12_room : GoodIn wsX12_sizeOf (wsV RX12 160 RX12 yX12_room wsX12_room) := goodIn_app (goodIn_of _ (by decide +kernel)) ggX12_sizeOf_X12_room
set_option maxRecDepth 20000 in
theorem ggX12_mostOf_X12_sizeOf : GoodIn wsX12_mostOf wsX12_sizeOf := goodIn_r _ [7, 8, 9, 10, 11, 1, 12, 13, 14, 6, 15, 16, 17, 18, 19, 20, 21, 22, 23, 24, 25, 26, 27, 28, 29, 30, 31, 32, 33, 34, 35, 36, 37, 38, 39, 40, 41, 42, 43, 44, 45, 46, 47, 48, 49, 50, 51, 52, 53, 54, 55, 56] (by decide +kernel) (by decide +kernel)
set_option maxRecDepth 20000 in
theorem gX12_mostOf_X12_sizeOf : GoodIn wsX12_mostOf (wsV RX12 163 RX12 yX12_sizeOf wsX12_sizeOf) := goodIn_app (goodIn_of _ (by decide +kernel)) ggX12_mostOf_X12_sizeOf
