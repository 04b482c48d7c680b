set_option maxRecDepth 20000 in
theorem gX11_cuts_X3_isWhole : GoodIn wsX11_cuts (wsV RX11 204 RX3 yX3_isWhole wsX3_isWhole) := goodIn_app (goodIn_of _ (by decide +kernel)) ggX11_cuts_X3_isWhole
set_option maxRecDepth 20000 in
theorem ggX11_cuts_X1_grow : GoodIn wsX11_cuts wsX1_grow := goodIn_r _ [21, 22, 23, 24, 25, 26, 27, 28, 29, 30, 31, 32, 33, 34, 35, 36, 37, 38, 39, 40, 41, 42, 43, 44, 45, 46, 47, 13, 14, 7, 15, 16, 48, 49, 50, 51, 52, 53, 54, 55, 56, 57, 58, 59, 60, 61, 62, 63, 64, 65, 66, 67, 68, 69, 70, 71, 72, 73, 74, 75, 20, 76, 77, 78, 79, 80, 81, 82, 83, 84, 85, 86, 87, 88, 89, 90, 91, 92, 93, 94, 95, 96, 97, 98, 99, 100, 101, 102, 103, 104, 105, 106, 107, 108, 109, 110, 111, 112, 113, 175, 176, 177, 178, 179, 180, 181, 182, 183, 184, 185, 186, 168, 169, 170, 171, 172, 173, 174] rfl (by decide +kernel)
set_option maxRecDepth 20000 in
theorem gX11_cuts_X1_grow : GoodIn wsX11_cuts (wsV RX11 212 RX1 yX1_grow wsX1_grow) := goodIn_app (goodIn_of _ (by decide +kernel)) ggX11_cuts_X1_grow
set_option maxRecDepth 20000 in
theorem ggX11_cuts_X1_leastNumber : GoodIn wsX11_cuts wsX1_leastNumber := goodIn_r _ [117, 118, 22, 25, 26, 24, 119, 103, 104, 105, 175, 176, 177, 178, 179, 180, 181, 182, 183, 184, 185, 186, 168, 169, 170, 171, 172, 173, 174] rfl (by decide +kernel)
set_option maxRecDepth 20000 in
theorem gX11_cuts_X1_leastNumber : GoodIn wsX11_cuts (wsV RX11 224 RX1 yX1_leastNumber wsX1_leastNumber) := goodIn_app (goodIn_of _ (by decide +kernel)) ggX11_cuts_X1_leastNumber
set_option maxRecDepth 20000 in
theorem ggX11_cuts_X7_countCuts : GoodIn wsX11_cuts wsX7_countCuts := goodIn_r _ [124, 125, 126, 127, 128, 129, 123, 130, 131, 132, 133, 134, 135, 136, 137, 138, 139, 140, 141, 142, 143, 144, 145, 146, 147, 148, 149, 150, 151, 152, 153, 154, 155, 187, 188, 189, 190, 191, 192, 193, 194, 195, 178, 179, 180, 181, 182, 183, 184, 185, 186, 168, 169, 170, 171, 172, 173, 174] rfl (by decide +kernel)
set_option maxRecDepth 20000 in
theorem gX11_cuts_X7_countCuts : GoodIn wsX11_cuts (wsV RX11 182 RX7 yX7_countCuts wsX7_countCuts) := goodIn_app (goodIn_of _ (by decide +kernel)) ggX11_cuts_X7_countCuts
set_option maxRecDepth 20000 in
theorem ggX11_cutAt_X3_isWhole : GoodIn wsX11_cutAt wsX3_isWhole := goodIn_r _ [8, 9, 10, 11, 12, 13, 14, 7, 15, 16, 167, 168, 169, 170, 171, 172, 173] rfl (by decide +kernel)
set_option maxRecDepth 20000 in
theorem gX11_cutAt_X3_isWhole : GoodIn wsX11_cutAt (wsV RX11 204 RX3 yX3_isWhole wsX3_isWhole) := goodIn_app (goodIn_of _ (by decide +kernel)) ggX11_cutAt_X3_isWhole
set_option maxRecDepth 20000 in
theorem ggX11_cutAt_X1_grow : GoodIn wsX11_cutAt wsX1_grow := goodIn_r _ [21, 22, 23, 24, 25, 26, 27, 28, 29, 30, 31, 32, 33, 34, 35, 36, 37, 38, 39, 40, 41, 42, 43, 44, 45, 46, 47, 13, 14, 7, 15, 16, 48, 49, 50, 51, 52, 53, 54, 55, 56, 57, 58, 59, 60, 61, 62, 63, 64, 65, 66, 67, 68, 69, 70, 71, 72, 73, 74, 75, 20, 76, 77, 78, 79, 80, 81, 82, 83, 84, 85, 86, 87, 88, 89, 90, 91, 92, 93, 94, 95, 96, 97, 98, 99, 100, 101, 102, 103, 104, 105, 106, 107, 108, 109, 110, 111, 112, 113, 174, 175, 176, 177, 178, 179, 180, 181, 182, 183, 184, 185, 167, 168, 169, 170, 171, 172, 173] rfl (by decide +kernel)
set_option maxRecDepth 20000 in
theorem gX11_cutAt_X1_grow : GoodIn wsX11_cutAt (wsV RX11 212 RX1 yX1_grow wsX1_grow) := goodIn_app (goodIn_of _ (by decide +kernel)) ggX11_cutAt_X1_grow
set_option maxRecDepth 20000 in
theorem ggX11_cutAt_X1_leastNumber : GoodIn wsX11_cutAt wsX1_leastNumber := goodIn_r _ [117, 118, 22, 25, 26, 24, 119, 103, 104, 105, 174, 175, 176, 177, 178, 179, 180, 181, 182, 183, 184, 185, 167, 168, 169, 170, 171, 172, 173] rfl (by decide +kernel)
set_option maxRecDepth 20000 in
theorem gX11_cutAt_X1_leastNumber : GoodIn wsX11_cutAt (wsV RX11 224 RX1 yX1_leastNumber wsX1_leastNumber) := goodIn_app (goodIn_of _ (by decide +kernel)) ggX11_cutAt_X1_leastNumber
set_option maxRecDepth 20000 in
theorem ggX11_cutAt_X7_findCut : GoodIn wsX11_cutAt wsX7_findCut := goodIn_r _ [124, 125, 126, 127, 128, 123, 129, 130, 131, 132, 133, 134, 135, 136, 137, 138, 139, 140, 141, 142, 143, 144, 145, 146, 147, 148, 149, 150, 151, 152, 153, 154, 186, 187, 188, 189, 190, 191, 192, 193, 194, 177, 178, 179, 180, 181, 182, 183, 184, 185, 167, 168, 169, 170, 171, 172, 173] rfl (by decide +kernel)
set_option maxRecDepth 20000 in
theorem gX11_cutAt_X7_findCut : GoodIn wsX11_cutAt (wsV RX11 186 RX7 yX7_findCut wsX7_findCut) := goodIn_app (goodIn_of _ (by decide +kernel)) ggX11_cutAt_X7_findCut
set_option maxRecDepth 20000 in
theorem ggX11_weak_X3_hasLine : GoodIn wsX11_weak wsX3_hasLine := goodIn_r _ [9, 10, 146, 147, 148, 149, 150, 151, 152] rfl (by decide +kernel)
set_option maxRecDepth 20000 in
theorem gX11_weak_X3_hasLine : GoodIn wsX11_weak (wsV RX11 112 RX3 yX3_hasLine wsX3_hasLine) := goodIn_app (goodIn_of _ (by decide +kernel)) ggX11_weak_X3_hasLine
set_option maxRecDepth 20000 in
theorem ggX11_weak_X3_isWhole : GoodIn wsX11_weak wsX3_isWhole := goodIn_r _ [14, 10, 15, 16, 17, 18, 19, 8, 20, 21, 146, 147, 148, 149, 150, 151, 152] rfl (by decide +kernel)
set_option maxRecDepth 20000 in
theorem gX11_weak_X3_isWhole : GoodIn wsX11_weak (wsV RX11 204 RX3 yX3_isWhole wsX3_isWhole) := goodIn_app (goodIn_of _ (by decide +kernel)) ggX11_weak_X3_isWhole
set_option maxRecDepth 20000 in
theorem ggX11_weak_X3_isMissing : GoodIn wsX11_weak wsX3_isMissing := goodIn_r _ [20, 21, 146, 147, 148, 149, 150, 151, 152] rfl (by decide +kernel)
set_option maxRecDepth 20000 in
theorem gX11_weak_X3_isMissing : GoodIn wsX11_weak (wsV RX11 126 RX3 yX3_isMissing wsX3_isMissing) := goodIn_app (goodIn_of _ (by decide +kernel)) ggX11_weak_X3_isMissing
set_option maxRecDepth 20000 in
theorem ggX11_weak_X1_grow : GoodIn wsX11_weak wsX1_grow := goodIn_r _ [27, 28, 29, 30, 31, 32, 33, 34, 35, 36, 37, 38, 39, 40, 41, 42, 43, 44, 45, 46, 47, 48, 49, 50, 51, 52, 53, 18, 19, 8, 20, 21, 54, 55, 56, 57, 58, 59, 60, 61, 62, 63, 64, 65, 66, 67, 68, 69, 70, 71, 72, 73, 74, 75, 76, 77, 78, 79, 80, 81, 26, 82, 83, 84, 85, 86, 87, 88, 89, 90, 91, 92, 93, 94, 95, 96, 97, 98, 99, 100, 101, 102, 103, 104, 105, 106, 107, 108, 109, 110, 111, 112, 113, 114, 115, 116, 117, 118, 119, 153, 154, 155, 156, 157, 158, 159, 160, 161, 162, 163, 164, 146, 147, 148, 149, 150, 151, 152] rfl (by decide +kernel)
set_option maxRecDepth 20000 in
theorem gX11_weak_X1_grow : GoodIn wsX11_weak (wsV RX11 212 RX1 yX1_grow wsX1_grow) := goodIn_app (goodIn_of _ (by decide +kernel)) ggX11_weak_X1_grow
set_option maxRecDepth 20000 in
theorem ggX11_weak_X1_leastOnWay : GoodIn wsX11_weak wsX1_leastOnWay := goodIn_r _ [123, 124, 30, 125, 109, 110, 111, 29, 126, 127, 128, 26, 129, 153, 154, 155] rfl (by decide +kernel)
set_option maxRecDepth 20000 in
theorem gX11_weak_X1_leastOnWay : GoodIn wsX11_weak (wsV RX11 221 RX1 yX1_leastOnWay wsX1_leastOnWay) := goodIn_app (goodIn_of _ (by decide +kernel)) ggX11_weak_X1_leastOnWay
set_option maxRecDepth 20000 in
theorem ggX11_weak_X1_leastNumber : GoodIn wsX11_weak wsX1_leastNumber := goodIn_r _ [133, 124, 28, 31, 32, 30, 125, 109, 110, 111, 153, 154, 155, 156, 157, 158, 159, 160, 161, 162, 163, 164, 146, 147, 148, 149, 150, 151, 152] rfl (by decide +kernel)
set_option maxRecDepth 20000 in
theorem gX11_weak_X1_leastNumber : GoodIn wsX11_weak (wsV RX11 224 RX1 yX1_leastNumber wsX1_leastNumber) := goodIn_app (goodIn_of _ (by decide +kernel)) ggX11_weak_X1_leastNumber
set_option maxRecDepth 20000 in
theorem ggX11_part_X3_isWhole : GoodIn wsX11_part wsX3_isWhole := goodIn_r _ [8, 9, 10, 11, 12, 13, 14, 7, 15, 16, 149, 150, 151, 152, 153, 154, 155] rfl (by decide +kernel)
set_option maxRecDepth 20000 in
theorem gX11_part_X3_isWhole : GoodIn wsX11_part (wsV RX11 204 RX3 yX3_isWhole wsX3_isWhole) := goodIn_app (goodIn_of _ (by decide +kernel)) ggX11_part_X3_isWhole
set_option maxRecDepth 20000 in
theorem ggX11_part_X3_hasPlace : GoodIn wsX11_part wsX3_hasPlace := goodIn_r _ [20, 11, 149, 150, 151, 152, 153, 154, 155] rfl (by decide +kernel)
set_option maxRecDepth 20000 in
theorem gX11_part_X3_hasPlace : GoodIn wsX11_part (wsV RX11 208 RX3 yX3_hasPlace wsX3_hasPlace) := goodIn_app (goodIn_of _ (by decide +kernel)) ggX11_part_X3_hasPlace
set_option maxRecDepth 20000 in
theorem ggX11_part_X1_grow : GoodIn wsX11_part wsX1_grow := goodIn_r _ [25, 26, 27, 28, 29, 30, 31, 32, 33, 34, 35, 36, 37, 38, 39, 40, 41, 42, 43, 44, 45, 46, 47, 48, 49, 50, 51, 13, 14, 7, 15, 16, 52, 53, 54, 55, 56, 57, 58, 59, 60, 61, 62, 63, 64, 65, 66, 67, 68, 69, 70, 71, 72, 73, 74, 75, 76, 77, 78, 79, 24, 80, 81, 82, 83, 84, 85, 86, 87, 88, 89, 90, 91, 92, 93, 94, 95, 96, 97, 98, 99, 100, 101, 102, 103, 104, 105, 106, 107, 108, 109, 110, 111, 112, 113, 114, 115, 116, 117, 156, 157, 158, 159, 160, 161, 162, 163, 164, 165, 166, 167, 149, 150, 151, 152, 153, 154, 155] rfl (by decide +kernel)
set_option maxRecDepth 20000 in
theorem gX11_part_X1_grow : GoodIn wsX11_part (wsV RX11 212 RX1 yX1_grow wsX1_grow) := goodIn_app (goodIn_of _ (by decide +kernel)) ggX11_part_X1_grow
set_option maxRecDepth 20000 in
theorem ggX11_part_X1_partsBelow : GoodIn wsX11_part wsX1_partsBelow := goodIn_r _ [121, 122, 123, 124, 24, 125, 126, 127, 128, 129, 130, 28, 131, 107, 108, 109, 27, 132, 133, 134, 135, 156, 157, 158] rfl (by decide +kernel)
set_option maxRecDepth 20000 in
theorem gX11_part_X1_partsBelow : GoodIn wsX11_part (wsV RX11 227 RX1 yX1_partsBelow wsX1_partsBelow) := goodIn_app (goodIn_of _ (by decide +kernel)) ggX11_part_X1_partsBelow
set_option maxRecDepth 20000 in
theorem ggX11_part_X1_leastAlike : GoodIn wsX11_part wsX1_leastAlike := goodIn_r _ [125, 126, 127, 128, 24, 129, 130, 28, 131, 107, 108, 109, 27, 132, 133, 134, 135, 156, 157, 158] rfl (by decide +kernel)
set_option maxRecDepth 20000 in
theorem gX11_part_X1_leastAlike : GoodIn wsX11_part (wsV RX11 230 RX1 yX1_leastAlike wsX1_leastAlike) := goodIn_app (goodIn_of _ (by decide +kernel)) ggX11_part_X1_leastAlike
set_option maxRecDepth 20000 in
theorem ggX11_dense_X3_isWhole : GoodIn wsX11_dense wsX3_isWhole := goodIn_r _ [10, 11, 12, 13, 14, 15, 16, 9, 17, 18, 116, 117, 118, 119, 120, 121, 122] rfl (by decide +kernel)
set_option maxRecDepth 20000 in
theorem gX11_dense_X3_isWhole : GoodIn wsX11_dense (wsV RX11 204 RX3 yX3_isWhole wsX3_isWhole) := goodIn_app (goodIn_of _ (by decide +kernel)) ggX11_dense_X3_isWhole
set_option maxRecDepth 20000 in
theorem ggX11_dense_X0_load : GoodIn wsX11_dense wsX0_load := goodIn_r _ [23, 24, 25, 26, 27, 28, 29, 30, 31, 32, 33, 34, 35, 36, 37, 38, 39, 15, 16, 9, 17, 18, 40, 41, 42, 43, 44, 45, 46, 47, 48, 49, 50, 51, 52, 53, 54, 55, 56, 57, 58, 59, 60, 61, 22, 62, 63, 123, 124, 125, 126, 127, 128, 129, 130, 131, 116, 117, 118, 119, 120, 121, 122] rfl (by decide +kernel)
set_option maxRecDepth 20000 in
theorem gX11_dense_X0_load : GoodIn wsX11_dense (wsV RX11 190 RX0 yX0_load wsX0_load) := goodIn_app (goodIn_of _ (by decide +kernel)) ggX11_dense_X0_load
set_option maxRecDepth 20000 in
theorem ggX11_dense_X7_findDensest : GoodIn wsX11_dense wsX7_findDensest := goodIn_r _ [68, 69, 70, 71, 72, 73, 74, 75, 76, 67, 77, 78, 79, 80, 81, 82, 83, 84, 85, 86, 87, 88, 89, 90, 91, 92, 93, 107, 108, 109, 110, 111, 112, 113, 114, 115, 123, 124, 125, 126, 127, 128, 129, 130, 131, 116, 117, 118, 119, 120, 121, 122] rfl (by decide +kernel)
set_option maxRecDepth 20000 in
theorem gX11_dense_X7_findDensest : GoodIn wsX11_dense (wsV RX11 233 RX7 yX7_findDensest wsX7_findDensest) := goodIn_app (goodIn_of _ (by decide +kernel)) ggX11_dense_X7_findDensest
set_option maxRecDepth 20000 in
theorem ggX11_dense_J6_bitCount_0f7a4 : GoodIn wsX11_dense wsJ6_bitCount_0f7a4 := goodIn_r _ [85, 86, 87, 88] rfl (by decide +kernel)
set_option maxRecDepth 20000 in
theorem gX11_dense_J6_bitCount_0f7a4 : GoodIn wsX11_dense (va_wsS RX11 242 yJ6_bitCount_0f7a4 wsJ6_bitCount_0f7a4) := goodIn_app (goodIn_of _ (by decide +kernel)) ggX11_dense_J6_bitCount_0f7a4
set_option maxRecDepth 20000 in
theorem ggX11_map_X11_mapRefusal : GoodIn wsX11_map wsX11_mapRefusal := goodIn_r _ [6, 7, 8, 5, 9, 10, 11, 12] rfl (by decide +kernel)
set_option maxRecDepth 20000 in
theorem gX11_map_X11_mapRefusal : GoodIn wsX11_map (va_wsS RX11 247 yX11_mapRefusal wsX11_mapRefusal) := goodIn_app (goodIn_of _ (by decide +kernel)) ggX11_map_X11_mapRefusal
set_option maxRecDepth 20000 in
theorem ggX11_map_X4_begin : GoodIn wsX11_map wsX4_begin := goodIn_r _ [17, 18, 19, 20, 21, 22, 23, 24, 37, 38, 39, 40] rfl (by decide +kernel)
set_option maxRecDepth 20000 in
theorem gX11_map_X4_begin : GoodIn wsX11_map (wsV RX11 250 RX4 yX4_begin wsX4_begin) := goodIn_app (goodIn_of _ (by decide +kernel)) ggX11_map_X4_begin
set_option maxRecDepth 20000 in
theorem ggX11_row_X11_rowRefusal : GoodIn wsX11_row wsX11_rowRefusal := goodIn_r _ [7, 2, 8, 9, 6, 10, 11, 12, 13, 14, 15, 16, 17, 18, 19, 20, 27, 28, 29, 30, 31, 32, 33, 34, 35, 36, 37, 38, 39, 40, 41, 42] rfl (by decide +kernel)
set_option maxRecDepth 20000 in
theorem gX11_row_X11_rowRefusal : GoodIn wsX11_row (wsV RX11 254 RX11 yX11_rowRefusal wsX11_rowRefusal) := goodIn_app (goodIn_of _ (by decide +kernel)) ggX11_row_X11_rowRefusal
set_option maxRecDepth 20000 in
theorem ggX11_row_X4_beginRow : GoodIn wsX11_row wsX4_beginRow := goodIn_r _ [24, 25, 26, 39, 40, 41, 42] rfl (by decide +kernel)
set_option maxRecDepth 20000 in
theorem gX11_row_X4_beginRow : GoodIn wsX11_row (wsV RX11 257 RX4 yX4_beginRow wsX4_beginRow) := goodIn_app (goodIn_of _ (by decide +kernel)) ggX11_row_X4_beginRow
set_option maxRecDepth 20000 in
theorem ggX11_put_X11_numberRefusal : GoodIn wsX11_put wsX11_numberRefusal := goodIn_r _ [7, 2, 8, 9, 10, 11, 6, 12, 13, 14, 15, 16, 17, 18, 19, 20, 21, 22, 23, 24, 25, 32, 33, 34, 35, 36, 37, 38, 39, 40, 41, 42, 43, 44, 45, 46, 47] rfl (by decide +kernel)
set_option maxRecDepth 20000 in
theorem gX11_put_X11_numberRefusal : GoodIn wsX11_put (wsV RX11 260 RX11 yX11_numberRefusal wsX11_numberRefusal) := goodIn_app (goodIn_of _ (by decide +kernel)) ggX11_put_X11_numberRefusal
set_option maxRecDepth 20000 in
theorem ggX11_put_X4_store : GoodIn wsX11_put wsX4_store := goodIn_r _ [29, 30, 31, 44, 45, 46, 47] rfl (by decide +kernel)
set_option maxRecDepth 20000 in
theorem gX11_put_X4_store : GoodIn wsX11_put (wsV RX11 263 RX4 yX4_store wsX4_store) := goodIn_app (goodIn_of _ (by decide +kernel)) ggX11_put_X4_store
set_option maxRecDepth 20000 in
theorem ggX11_copy_X11_isMapNumber : GoodIn wsX11_copy wsX11_isMapNumber := goodIn_r _ [6] rfl (by decide +kernel)
set_option maxRecDepth 20000 in
theorem gX11_copy_X11_isMapNumber : GoodIn wsX11_copy (va_wsS RX11 267 yX11_isMapNumber wsX11_isMapNumber) := goodIn_app (goodIn_of _ (by decide +kernel)) ggX11_copy_X11_isMapNumber
set_option maxRecDepth 20000 in
theorem ggX11_copy_X4_moveRefusal : GoodIn wsX11_copy wsX4_moveRefusal := goodIn_r _ [11, 12, 13, 14, 15, 10, 16, 17, 18, 19, 20, 21, 22, 23, 24, 25, 47, 48, 49, 50] rfl (by decide +kernel)
set_option maxRecDepth 20000 in
theorem gX11_copy_X4_moveRefusal : GoodIn wsX11_copy (wsV RX11 270 RX4 yX4_moveRefusal wsX4_moveRefusal) := goodIn_app (goodIn_of _ (by decide +kernel)) ggX11_copy_X4_moveRefusal
set_option maxRecDepth 20000 in
theorem ggX11_copy_X4_move : GoodIn wsX11_copy wsX4_move := goodIn_r _ [29, 30, 31, 32, 33, 34, 47, 48, 49, 50] rfl (by decide +kernel)
set_option maxRecDepth 20000 in
theorem gX11_copy_X4_move : GoodIn wsX11_copy (wsV RX11 273 RX4 yX4_move wsX4_move) := goodIn_app (goodIn_of _ (by decide +kernel)) ggX11_copy_X4_move
set_option maxRecDepth 20000 in
theorem ggX11_item_X11_numberRefusal : GoodIn wsX11_item wsX11_numberRefusal := goodIn_r _ [7, 2, 8, 9, 10, 11, 6, 12, 13, 14, 15, 16, 17, 18, 19, 20, 21, 22, 23, 24, 25, 31, 32, 33, 34, 35, 36, 37, 38, 39, 40, 41, 42, 43, 44, 45, 46] rfl (by decide +kernel)
set_option maxRecDepth 20000 in
theorem gX11_item_X11_numberRefusal : GoodIn wsX11_item (wsV RX11 260 RX11 yX11_numberRefusal wsX11_numberRefusal) := goodIn_app (goodIn_of _ (by decide +kernel)) ggX11_item_X11_numberRefusal
set_option maxRecDepth 20000 in
theorem ggX11_item_X4_number : GoodIn wsX11_item wsX4_number := goodIn_r _ [29, 30, 43, 44, 45, 46] rfl (by decide +kernel)
set_option maxRecDepth 20000 in
theorem gX11_item_X4_number : GoodIn wsX11_item (wsV RX11 277 RX4 yX4_number wsX4_number) := goodIn_app (goodIn_of _ (by decide +kernel)) ggX11_item_X4_number
set_option maxRecDepth 20000 in
theorem ggX11_read_X11_isMapNumber : GoodIn wsX11_read wsX11_isMapNumber := goodIn_r _ [7] rfl (by decide +kernel)
set_option maxRecDepth 20000 in
theorem gX11_read_X11_isMapNumber : GoodIn wsX11_read (va_wsS RX11 267 yX11_isMapNumber wsX11_isMapNumber) := goodIn_app (goodIn_of _ (by decide +kernel)) ggX11_read_X11_isMapNumber
set_option maxRecDepth 20000 in
theorem ggX11_read_X4_isThere : GoodIn wsX11_read wsX4_isThere := goodIn_r _ [12, 13, 113, 114, 115, 116] rfl (by decide +kernel)
set_option maxRecDepth 20000 in
theorem gX11_read_X4_isThere : GoodIn wsX11_read (wsV RX11 281 RX4 yX4_isThere wsX4_isThere) := goodIn_app (goodIn_of _ (by decide +kernel)) ggX11_read_X4_isThere
set_option maxRecDepth 20000 in
theorem ggX11_read_X11_readRefusal : GoodIn wsX11_read wsX11_readRefusal := goodIn_r _ [17, 18, 19, 20, 21, 11, 22, 23, 24, 25, 26, 6, 27, 28, 29, 30, 31, 32, 33, 34, 35, 36, 37, 38, 39, 40, 41, 42, 113, 114, 115, 116, 101, 102, 103, 104, 105, 106, 107, 108, 109, 110, 111, 112, 117, 118, 119, 120, 121, 122, 123] rfl (by decide +kernel)
set_option maxRecDepth 20000 in
theorem gX11_read_X11_readRefusal : GoodIn wsX11_read (wsV RX11 287 RX11 yX11_readRefusal wsX11_readRefusal) := goodIn_app (goodIn_of _ (by decide +kernel)) ggX11_read_X11_readRefusal
set_option maxRecDepth 20000 in
theorem ggX11_read_X11_remember : GoodIn wsX11_read wsX11_remember := goodIn_r _ [46, 47, 48, 49, 50, 51, 36, 29, 52, 53, 54, 55, 56, 42, 57, 58, 59, 60, 61, 62, 63, 64, 65, 66, 67, 68, 69, 70, 71, 101, 102, 103, 104, 105, 106, 107, 108, 109, 110, 111, 112, 117, 118, 119, 120, 121, 122, 123] rfl (by decide +kernel)
set_option maxRecDepth 20000 in
theorem gX11_read_X11_remember : GoodIn wsX11_read (wsV RX11 97 RX11 yX11_remember wsX11_remember) := goodIn_app (goodIn_of _ (by decide +kernel)) ggX11_read_X11_remember
set_option maxRecDepth 20000 in
theorem ggX11_read_X4_whole : GoodIn wsX11_read wsX4_whole := goodIn_r _ [75, 76, 20, 21, 11, 22, 23, 113, 114, 115, 116] rfl (by decide +kernel)
set_option maxRecDepth 20000 in
theorem gX11_read_X4_whole : GoodIn wsX11_read (wsV RX11 291 RX4 yX4_whole wsX4_whole) := goodIn_app (goodIn_of _ (by decide +kernel)) ggX11_read_X4_whole
set_option maxRecDepth 20000 in
theorem ggX11_read_X11_addLine : GoodIn wsX11_read wsX11_addLine := goodIn_r _ [80, 29, 81, 82, 83, 84, 85, 86, 87, 88, 89, 90, 91, 92, 93, 94, 95, 96, 97, 98, 99, 36, 100, 59, 57, 60, 61, 62, 63, 101, 102, 103, 104, 105, 106, 107, 108, 109, 110, 111, 112, 117, 118, 119, 120, 121, 122, 123] rfl (by decide +kernel)
set_option maxRecDepth 20000 in
theorem gX11_read_X11_addLine : GoodIn wsX11_read (wsV RX11 108 RX11 yX11_addLine wsX11_addLine) := goodIn_app (goodIn_of _ (by decide +kernel)) ggX11_read_X11_addLine
set_option maxRecDepth 20000 in
theorem ggX11_about_X3_missingLines : GoodIn wsX11_about wsX3_missingLines := goodIn_r _ [9, 10, 11, 12, 13, 8, 14, 15, 34, 35, 36, 37, 38, 39, 40] rfl (by decide +kernel)
set_option maxRecDepth 20000 in
theorem gX11_about_X3_missingLines : GoodIn wsX11_about (wsV RX11 297 RX3 yX3_missingLines wsX3_missingLines) := goodIn_app (goodIn_of _ (by decide +kernel)) ggX11_about_X3_missingLines
set_option maxRecDepth 20000 in
theorem ggX11_about_X3_isWhole : GoodIn wsX11_about wsX3_isWhole := goodIn_r _ [19, 10, 20, 21, 11, 12, 13, 8, 14, 15, 34, 35, 36, 37, 38, 39, 40] rfl (by decide +kernel)
set_option maxRecDepth 20000 in
theorem gX11_about_X3_isWhole : GoodIn wsX11_about (wsV RX11 204 RX3 yX3_isWhole wsX3_isWhole) := goodIn_app (goodIn_of _ (by decide +kernel)) ggX11_about_X3_isWhole
set_option maxRecDepth 20000 in
theorem ggX11_remember_X3_init : GoodIn wsX11_remember wsX3_init := goodIn_r _ [9, 10, 11, 12, 13, 14, 15, 16, 17, 18, 19, 20, 41, 42, 43, 44, 45, 46, 47] rfl (by decide +kernel)
set_option maxRecDepth 20000 in
theorem gX11_remember_X3_init_n30 : GoodIn wsX11_remember (wsX3_init) := ggX11_remember_X3_init
set_option maxRecDepth 20000 in
theorem ggX11_remember_X3_become : GoodIn wsX11_remember wsX3_become := goodIn_r _ [24, 13, 14, 16, 25, 26, 27, 28, 17, 18, 19, 20, 41, 42, 43, 44, 45, 46, 47] rfl (by decide +kernel)
set_option maxRecDepth 20000 in
theorem gX11_remember_X3_become : GoodIn wsX11_remember (wsV RX11 151 RX3 yX3_become wsX3_become) := goodIn_app (goodIn_of _ (by decide +kernel)) ggX11_remember_X3_become
set_option maxRecDepth 20000 in
theorem ggX11_lineRefusal_X3_hasPair : GoodIn wsX11_lineRefusal wsX3_hasPair := goodIn_r _ [10, 11, 12, 13, 9, 14, 15, 28, 29, 30, 31, 32, 33, 34] rfl (by decide +kernel)
set_option maxRecDepth 20000 in
theorem gX11_lineRefusal_X3_hasPair : GoodIn wsX11_lineRefusal (wsV RX11 135 RX3 yX3_hasPair wsX3_hasPair) := goodIn_app (goodIn_of _ (by decide +kernel)) ggX11_lineRefusal_X3_hasPair
set_option maxRecDepth 20000 in
theorem ggX11_addLine_X6_begins : GoodIn wsX11_addLine wsX6_begins := goodIn_r _ [8] rfl (by decide +kernel)
set_option maxRecDepth 20000 in
theorem gX11_addLine_X6_begins_u306X2 : GoodIn wsX11_addLine (va_wsU RX11 306 RX2 "CutAtlas$PlainKind" ⟨"CutAtlas$PlainKind", "begins", "(I)I"⟩ yX6_begins wsX6_begins) := goodIn_app (goodIn_of _ (by decide +kernel)) ggX11_addLine_X6_begins
set_option maxRecDepth 20000 in
theorem gX11_addLine_X6_begins_u306X5 : GoodIn wsX11_addLine (va_wsU RX11 306 RX5 "CutAtlas$PlainKind" ⟨"CutAtlas$PlainKind", "begins", "(I)I"⟩ yX6_begins wsX6_begins) := goodIn_app (goodIn_of _ (by decide +kernel)) ggX11_addLine_X6_begins
set_option maxRecDepth 20000 in
theorem gX11_addLine_X6_begins : GoodIn wsX11_addLine (wsV RX11 306 RX6 yX6_begins wsX6_begins) := goodIn_app (goodIn_of _ (by decide +kernel)) ggX11_addLine_X6_begins
set_option maxRecDepth 20000 in
theorem ggX11_addLine_X8_begins : GoodIn wsX11_addLine wsX8_begins := goodIn_r _ [16] rfl (by decide +kernel)
set_option maxRecDepth 20000 in
theorem gX11_addLine_X8_begins_u306X8 : GoodIn wsX11_addLine (va_wsO RX11 306 RX8 "CutAtlas$PlainKind" ⟨"CutAtlas$PlainKind", "begins", "(I)I"⟩ yX8_begins wsX8_begins) := goodIn_app (goodIn_of _ (by decide +kernel)) ggX11_addLine_X8_begins
set_option maxRecDepth 20000 in
theorem gX11_addLine_X6_begins_u306X9 : GoodIn wsX11_addLine (va_wsU RX11 306 RX9 "CutAtlas$PlainKind" ⟨"CutAtlas$PlainKind", "begins", "(I)I"⟩ yX6_begins wsX6_begins) := goodIn_app (goodIn_of _ (by decide +kernel)) ggX11_addLine_X6_begins
set_option maxRecDepth 20000 in
theorem ggX11_addLine_X3_append : GoodIn wsX11_addLine wsX3_append := goodIn_r _ [22, 23, 24, 25, 26, 27, 28, 41, 42, 43, 44, 45, 46, 47] rfl (by decide +kernel)
set_option maxRecDepth 20000 in
theorem gX11_addLine_X3_append : GoodIn wsX11_addLine (wsV RX11 309 RX3 yX3_append wsX3_append) := goodIn_app (goodIn_of _ (by decide +kernel)) ggX11_addLine_X3_append
set_option maxRecDepth 20000 in
theorem ggX11_mostNow_X0_load : GoodIn wsX11_mostNow wsX0_load := goodIn_r _ [6, 7, 8, 9, 10, 11, 12, 13, 14, 15, 16, 17, 18, 19, 20, 21, 22, 23, 24, 25, 26, 27, 28, 29, 30, 31, 32, 33, 34, 35, 36, 37, 38, 39, 40, 41, 42, 43, 44, 45, 46, 47, 48, 49, 5, 50, 51, 97, 98, 99, 100, 101, 102, 103, 104, 105, 106, 107, 108, 109, 110, 111, 112] rfl (by decide +kernel)
set_option maxRecDepth 20000 in
theorem gX11_mostNow_X0_load : GoodIn wsX11_mostNow (wsV RX11 190 RX0 yX0_load wsX0_load) := goodIn_app (goodIn_of _ (by decide +kernel)) ggX11_mostNow_X0_load
set_option maxRecDepth 20000 in
theorem ggX11_mostNow_X0_fill : GoodIn wsX11_mostNow wsX0_fill := goodIn_r _ [55, 56, 7, 8, 9, 57, 58, 59, 60, 61, 51, 18, 19, 20, 21, 62, 63, 64, 5, 65, 66, 67, 68, 69, 70, 71, 72, 73, 74, 75, 76, 77, 78, 79, 80, 81, 82, 83, 84, 10, 16, 17, 14, 15, 97, 98, 99, 100, 101, 102, 103, 104, 105, 106, 107, 108, 109, 110, 111, 112] rfl (by decide +kernel)
set_option maxRecDepth 20000 in
theorem gX11_mostNow_X0_fill : GoodIn wsX11_mostNow (wsV RX11 198 RX0 yX0_fill wsX0_fill) := goodIn_app (goodIn_of _ (by decide +kernel)) ggX11_mostNow_X0_fill
set_option maxRecDepth 20000 in
theorem ggX11_mapRefusal_X11_isMapNumber : GoodIn wsX11_mapRefusal wsX11_isMapNumber := goodIn_r _ [4] rfl (by decide +kernel)
set_option maxRecDepth 20000 in
theorem gX11_mapRefusal_X11_isMapNumber : GoodIn wsX11_mapRefusal (va_wsS RX11 267 yX11_isMapNumber wsX11_isMapNumber) := goodIn_app (goodIn_of _ (by decide +kernel)) ggX11_mapRefusal_X11_isMapNumber
set_option maxRecDepth 20000 in
theorem ggX11_mapRefusal_X11_isMapKind : GoodIn wsX11_mapRefusal wsX11_isMapKind := goodIn_r _ [7] rfl (by decide +kernel)
set_option maxRecDepth 20000 in
theorem gX11_mapRefusal_X11_isMapKind : GoodIn wsX11_mapRefusal (va_wsS RX11 312 yX11_isMapKind wsX11_isMapKind) := goodIn_app (goodIn_of _ (by decide +kernel)) ggX11_mapRefusal_X11_isMapKind
set_option maxRecDepth 20000 in
theorem ggX11_rowRefusal_X11_isMapNumber : GoodIn wsX11_rowRefusal wsX11_isMapNumber := goodIn_r _ [5] rfl (by decide +kernel)
set_option maxRecDepth 20000 in
theorem gX11_rowRefusal_X11_isMapNumber : GoodIn wsX11_rowRefusal (va_wsS RX11 267 yX11_isMapNumber wsX11_isMapNumber) := goodIn_app (goodIn_of _ (by decide +kernel)) ggX11_rowRefusal_X11_isMapNumber
set_option maxRecDepth 20000 in
theorem ggX11_rowRefusal_X4_isThere : GoodIn wsX11_rowRefusal wsX4_isThere := goodIn_r _ [10, 11, 28, 29, 30, 31] rfl (by decide +kernel)
set_option maxRecDepth 20000 in
theorem gX11_rowRefusal_X4_isThere : GoodIn wsX11_rowRefusal (wsV RX11 281 RX4 yX4_isThere wsX4_isThere) := goodIn_app (goodIn_of _ (by decide +kernel)) ggX11_rowRefusal_X4_isThere
set_option maxRecDepth 20000 in
theorem ggX11_rowRefusal_X4_hasRow : GoodIn wsX11_rowRefusal wsX4_hasRow := goodIn_r _ [15, 11, 28, 29, 30, 31] rfl (by decide +kernel)
set_option maxRecDepth 20000 in
theorem gX11_rowRefusal_X4_hasRow : GoodIn wsX11_rowRefusal (wsV RX11 315 RX4 yX4_hasRow wsX4_hasRow) := goodIn_app (goodIn_of _ (by decide +kernel)) ggX11_rowRefusal_X4_hasRow
set_option maxRecDepth 20000 in
theorem ggX11_numberRefusal_X11_isMapNumber : GoodIn wsX11_numberRefusal wsX11_isMapNumber := goodIn_r _ [7] rfl (by decide +kernel)
set_option maxRecDepth 20000 in
theorem gX11_numberRefusal_X11_isMapNumber : GoodIn wsX11_numberRefusal (va_wsS RX11 267 yX11_isMapNumber wsX11_isMapNumber) := goodIn_app (goodIn_of _ (by decide +kernel)) ggX11_numberRefusal_X11_isMapNumber
set_option maxRecDepth 20000 in
theorem ggX11_numberRefusal_X11_isMapKind : GoodIn wsX11_numberRefusal wsX11_isMapKind := goodIn_r _ [10] rfl (by decide +kernel)
set_option maxRecDepth 20000 in
theorem gX11_numberRefusal_X11_isMapKind : GoodIn wsX11_numberRefusal (va_wsS RX11 312 yX11_isMapKind wsX11_isMapKind) := goodIn_app (goodIn_of _ (by decide +kernel)) ggX11_numberRefusal_X11_isMapKind
set_option maxRecDepth 20000 in
theorem ggX11_numberRefusal_X4_isThere : GoodIn wsX11_numberRefusal wsX4_isThere := goodIn_r _ [15, 16, 33, 34, 35, 36] rfl (by decide +kernel)
set_option maxRecDepth 20000 in
theorem gX11_numberRefusal_X4_isThere : GoodIn wsX11_numberRefusal (wsV RX11 281 RX4 yX4_isThere wsX4_isThere) := goodIn_app (goodIn_of _ (by decide +kernel)) ggX11_numberRefusal_X4_isThere
set_option maxRecDepth 20000 in
theorem ggX11_numberRefusal_X4_hasRow : GoodIn wsX11_numberRefusal wsX4_hasRow := goodIn_r _ [20, 16, 33, 34, 35, 36] rfl (by decide +kernel)
set_option maxRecDepth 20000 in
theorem gX11_numberRefusal_X4_hasRow : GoodIn wsX11_numberRefusal (wsV RX11 315 RX4 yX4_hasRow wsX4_hasRow) := goodIn_app (goodIn_of _ (by decide +kernel)) ggX11_numberRefusal_X4_hasRow
set_option maxRecDepth 20000 in
theorem ggX11_readRefusal_X4_number : GoodIn wsX11_readRefusal wsX4_number := goodIn_r _ [6, 7, 28, 29, 30, 31] rfl (by decide +kernel)
set_option maxRecDepth 20000 in
theorem gX11_readRefusal_X4_number : GoodIn wsX11_readRefusal (wsV RX11 277 RX4 yX4_number wsX4_number) := goodIn_app (goodIn_of _ (by decide +kernel)) ggX11_readRefusal_X4_number
set_option maxRecDepth 20000 in
theorem ggX11_readRefusal_X11_lineRefusal : GoodIn wsX11_readRefusal wsX11_lineRefusal := goodIn_r _ [12, 13, 14, 15, 16, 17, 18, 19, 20, 21, 22, 23, 24, 25, 26, 27, 32, 33, 34, 35, 36, 37, 38, 39, 40, 41, 42, 43, 44, 45, 46, 47, 48, 49, 50] rfl (by decide +kernel)
set_option maxRecDepth 20000 in
theorem gX11_readRefusal_X11_lineRefusal : GoodIn wsX11_readRefusal (wsV RX11 100 RX11 yX11_lineRefusal wsX11_lineRefusal) := goodIn_app (goodIn_of _ (by decide +kernel)) ggX11_readRefusal_X11_lineRefusal
