set_option maxRecDepth 20000 in
theorem ggX0_load_J7_fill_53178 : GoodIn wsX0_load wsJ7_fill_53178 := goodIn_r _ [15] rfl (by decide +kernel)
set_option maxRecDepth 20000 in
theorem gX0_load_J7_fill_53178 : GoodIn wsX0_load (va_wsS RX0 49 yJ7_fill_53178 wsJ7_fill_53178) := goodIn_app (goodIn_r _ [12, 13, 14] rfl (by decide +kernel)) ggX0_load_J7_fill_53178
set_option maxRecDepth 20000 in
theorem ggX0_load_X3_isMissing : GoodIn wsX0_load wsX3_isMissing := goodIn_r _ [20, 21, 56, 57, 58, 59, 60, 61, 62] rfl (by decide +kernel)
set_option maxRecDepth 20000 in
theorem gX0_load_X3_isMissing : GoodIn wsX0_load (wsV RX0 58 RX3 yX3_isMissing wsX3_isMissing) := goodIn_app (goodIn_r _ [16, 17, 18, 19] rfl (by decide +kernel)) ggX0_load_X3_isMissing
set_option maxRecDepth 20000 in
theorem ggX0_load_X6_lets : GoodIn wsX0_load wsX6_lets := goodIn_r _ [27] rfl (by decide +kernel)
set_option maxRecDepth 20000 in
theorem gX0_load_X6_lets_u67X2 : GoodIn wsX0_load (va_wsU RX0 67 RX2 "CutAtlas$PlainKind" ⟨"CutAtlas$PlainKind", "lets", "(IZ)I"⟩ yX6_lets wsX6_lets) := goodIn_app (goodIn_of _ (by decide +kernel)) ggX0_load_X6_lets
set_option maxRecDepth 20000 in
theorem ggX0_load_X5_lets : GoodIn wsX0_load wsX5_lets := goodIn_r _ [32, 33, 23, 34, 25, 26, 27] rfl (by decide +kernel)
set_option maxRecDepth 20000 in
theorem gX0_load_X5_lets_u67X5 : GoodIn wsX0_load (va_wsO RX0 67 RX5 "CutAtlas$PlainKind" ⟨"CutAtlas$PlainKind", "lets", "(IZ)I"⟩ yX5_lets wsX5_lets) := goodIn_app (goodIn_of _ (by decide +kernel)) ggX0_load_X5_lets
set_option maxRecDepth 20000 in
theorem gX0_load_X6_lets : GoodIn wsX0_load (wsV RX0 67 RX6 yX6_lets wsX6_lets) := goodIn_app (goodIn_r _ [35, 25, 36, 26] rfl (by decide +kernel)) ggX0_load_X6_lets
set_option maxRecDepth 20000 in
theorem gX0_load_X6_lets_u67X8 : GoodIn wsX0_load (va_wsU RX0 67 RX8 "CutAtlas$PlainKind" ⟨"CutAtlas$PlainKind", "lets", "(IZ)I"⟩ yX6_lets wsX6_lets) := goodIn_app (goodIn_of _ (by decide +kernel)) ggX0_load_X6_lets
set_option maxRecDepth 20000 in
theorem ggX0_load_X9_lets : GoodIn wsX0_load wsX9_lets := goodIn_r _ [41] rfl (by decide +kernel)
set_option maxRecDepth 20000 in
theorem gX0_load_X9_lets_u67X9 : GoodIn wsX0_load (va_wsO RX0 67 RX9 "CutAtlas$PlainKind" ⟨"CutAtlas$PlainKind", "lets", "(IZ)I"⟩ yX9_lets wsX9_lets) := goodIn_app (goodIn_of _ (by decide +kernel)) ggX0_load_X9_lets
set_option maxRecDepth 20000 in
theorem ggX0_load_X0_asRoom : GoodIn wsX0_load wsX0_asRoom := goodIn_r _ [45, 46] rfl (by decide +kernel)
set_option maxRecDepth 20000 in
theorem gX0_load_X0_asRoom : GoodIn wsX0_load (va_wsS RX0 72 yX0_asRoom wsX0_asRoom) := goodIn_app (goodIn_r _ [42, 43, 44] rfl (by decide +kernel)) ggX0_load_X0_asRoom
set_option maxRecDepth 20000 in
theorem ggX0_fill_J7_fill_53178 : GoodIn wsX0_fill wsJ7_fill_53178 := goodIn_r _ [14] rfl (by decide +kernel)
set_option maxRecDepth 20000 in
theorem gX0_fill_J7_fill_53178 : GoodIn wsX0_fill (va_wsS RX0 49 yJ7_fill_53178 wsJ7_fill_53178) := goodIn_app (goodIn_r _ [11, 12, 13] rfl (by decide +kernel)) ggX0_fill_J7_fill_53178
set_option maxRecDepth 20000 in
theorem ggX0_fill_X0_reachedFrom : GoodIn wsX0_fill wsX0_reachedFrom := goodIn_r _ [19, 20, 2, 3, 5, 44, 45, 46, 47, 48, 49, 50, 51, 52, 53, 54, 55, 56, 57, 58, 59] rfl (by decide +kernel)
set_option maxRecDepth 20000 in
theorem gX0_fill_X0_reachedFrom : GoodIn wsX0_fill (wsV RX0 89 RX0 yX0_reachedFrom wsX0_reachedFrom) := goodIn_app (goodIn_r _ [15, 16, 17, 18] rfl (by decide +kernel)) ggX0_fill_X0_reachedFrom
set_option maxRecDepth 20000 in
theorem ggX0_fill_X0_findWay : GoodIn wsX0_fill wsX0_findWay := goodIn_r _ [24, 20, 2, 3, 5, 25, 44, 45, 46, 47, 48, 49, 50, 51, 52, 53, 54, 55, 56, 57, 58, 59] rfl (by decide +kernel)
set_option maxRecDepth 20000 in
theorem gX0_fill_X0_findWay : GoodIn wsX0_fill (wsV RX0 93 RX0 yX0_findWay wsX0_findWay) := goodIn_app (goodIn_r _ [21, 22, 23, 18] rfl (by decide +kernel)) ggX0_fill_X0_findWay
set_option maxRecDepth 20000 in
theorem ggX0_fill_X0_sendAlongWay : GoodIn wsX0_fill wsX0_sendAlongWay := goodIn_r _ [29, 30, 5, 25, 31, 32, 33, 34, 35, 36, 37, 18, 38, 2, 39, 40, 41, 42, 1, 43, 44, 45, 46, 47, 48, 49, 50, 51, 52, 53, 54, 55, 56, 57, 58, 59] rfl (by decide +kernel)
set_option maxRecDepth 20000 in
theorem gX0_fill_X0_sendAlongWay : GoodIn wsX0_fill (wsV RX0 97 RX0 yX0_sendAlongWay wsX0_sendAlongWay) := goodIn_app (goodIn_r _ [26, 27, 28, 18] rfl (by decide +kernel)) ggX0_fill_X0_sendAlongWay
set_option maxRecDepth 20000 in
theorem ggX0_sendAlongWay_X0_sendOver : GoodIn wsX0_sendAlongWay wsX0_sendOver := goodIn_r _ [12, 2, 13, 14, 15, 16, 17, 18, 4, 5, 6, 7, 19, 20, 21, 22, 23, 24, 25, 26, 27, 28, 29, 30, 31, 32, 33, 34, 35] rfl (by decide +kernel)
set_option maxRecDepth 20000 in
theorem gX0_sendAlongWay_X0_sendOver : GoodIn wsX0_sendAlongWay (wsV RX0 106 RX0 yX0_sendOver wsX0_sendOver) := goodIn_app (goodIn_r _ [8, 9, 10, 11] rfl (by decide +kernel)) ggX0_sendAlongWay_X0_sendOver
set_option maxRecDepth 20000 in
theorem ggX0_nearCut_X0_reachedFrom : GoodIn wsX0_nearCut wsX0_reachedFrom := goodIn_r _ [5, 6, 7, 8, 9, 10, 11, 12, 13, 14, 15, 16, 17, 18, 19, 20, 21, 22, 23, 24, 25] rfl (by decide +kernel)
set_option maxRecDepth 20000 in
theorem gX0_nearCut_X0_reachedFrom : GoodIn wsX0_nearCut (wsV RX0 89 RX0 yX0_reachedFrom wsX0_reachedFrom) := goodIn_app (goodIn_r _ [1, 2, 3, 4] rfl (by decide +kernel)) ggX0_nearCut_X0_reachedFrom
set_option maxRecDepth 20000 in
theorem ggX0_farCut_X0_reaching : GoodIn wsX0_farCut wsX0_reaching := goodIn_r _ [7, 8, 1, 2, 9, 10, 11, 12, 13, 14, 15, 16, 17, 18, 19, 20, 21, 22, 23, 24, 25] rfl (by decide +kernel)
set_option maxRecDepth 20000 in
theorem gX0_farCut_X0_reaching : GoodIn wsX0_farCut (wsV RX0 110 RX0 yX0_reaching wsX0_reaching) := goodIn_app (goodIn_r _ [3, 4, 5, 6] rfl (by decide +kernel)) ggX0_farCut_X0_reaching
set_option maxRecDepth 20000 in
theorem ggX0_leaving_X0_betweenSets : GoodIn wsX0_leaving wsX0_betweenSets := goodIn_r _ [7, 1, 2, 8, 9, 10, 11, 12, 13, 14, 15, 16, 17, 18, 19, 20, 21, 22, 23, 24] rfl (by decide +kernel)
set_option maxRecDepth 20000 in
theorem gX0_leaving_X0_betweenSets : GoodIn wsX0_leaving (wsV RX0 113 RX0 yX0_betweenSets wsX0_betweenSets) := goodIn_app (goodIn_r _ [3, 4, 5, 6] rfl (by decide +kernel)) ggX0_leaving_X0_betweenSets
set_option maxRecDepth 20000 in
theorem ggX1_grow_X0_load : GoodIn wsX1_grow wsX0_load := goodIn_r _ [10, 11, 12, 13, 14, 15, 16, 17, 18, 19, 20, 21, 22, 23, 24, 25, 26, 27, 28, 29, 30, 31, 32, 33, 34, 35, 36, 37, 38, 39, 40, 41, 42, 43, 44, 45, 46, 47, 48, 49, 50, 51, 52, 53, 9, 54, 55, 102, 103, 104, 105, 106, 107, 108, 109, 110, 111, 112, 113, 114, 115, 116, 117] rfl (by decide +kernel)
set_option maxRecDepth 20000 in
theorem gX1_grow_X0_load : GoodIn wsX1_grow (wsV RX1 22 RX0 yX0_load wsX0_load) := goodIn_app (goodIn_r _ [6, 7, 8, 9] rfl (by decide +kernel)) ggX1_grow_X0_load
set_option maxRecDepth 20000 in
theorem ggX1_grow_J7_fill_53178 : GoodIn wsX1_grow wsJ7_fill_53178 := goodIn_r _ [25] rfl (by decide +kernel)
set_option maxRecDepth 20000 in
theorem gX1_grow_J7_fill_53178 : GoodIn wsX1_grow (va_wsS RX1 28 yJ7_fill_53178 wsJ7_fill_53178) := goodIn_app (goodIn_r _ [56, 23, 24] rfl (by decide +kernel)) ggX1_grow_J7_fill_53178
set_option maxRecDepth 20000 in
theorem ggX1_grow_X1_hang : GoodIn wsX1_grow wsX1_hang := goodIn_r _ [61, 2, 1, 3, 4, 5, 62, 63, 64, 9, 65, 66, 11, 12, 13, 67, 68, 69, 70, 71, 55, 22, 23, 24, 25, 72, 73, 74, 75, 76, 77, 78, 79, 80, 81, 82, 83, 84, 85, 86, 87, 88, 89, 90, 91, 92, 93, 94, 14, 20, 21, 18, 19, 95, 96, 97, 98, 99, 100, 101, 102, 103, 104, 105, 106, 107, 108, 109, 110, 111, 112, 113, 114, 115, 116, 117] rfl (by decide +kernel)
set_option maxRecDepth 20000 in
theorem gX1_grow_X1_hang : GoodIn wsX1_grow (wsV RX1 44 RX1 yX1_hang wsX1_hang) := goodIn_app (goodIn_r _ [57, 58, 59, 60] rfl (by decide +kernel)) ggX1_grow_X1_hang
set_option maxRecDepth 20000 in
theorem ggX1_hang_X0_fill : GoodIn wsX1_hang wsX0_fill := goodIn_r _ [10, 11, 12, 13, 14, 15, 16, 17, 18, 19, 20, 21, 22, 23, 24, 25, 26, 27, 9, 28, 29, 30, 31, 32, 33, 34, 35, 36, 37, 38, 39, 40, 41, 42, 43, 44, 45, 46, 47, 48, 49, 50, 51, 52, 60, 61, 62, 63, 64, 65, 66, 67, 68, 69, 70, 71, 72, 73, 74, 75] rfl (by decide +kernel)
set_option maxRecDepth 20000 in
theorem gX1_hang_X0_fill : GoodIn wsX1_hang (wsV RX1 47 RX0 yX0_fill wsX0_fill) := goodIn_app (goodIn_r _ [6, 7, 8, 9] rfl (by decide +kernel)) ggX1_hang_X0_fill
set_option maxRecDepth 20000 in
theorem ggX1_hang_X0_nearCut : GoodIn wsX1_hang wsX0_nearCut := goodIn_r _ [56, 25, 26, 27, 9, 28, 29, 12, 13, 15, 60, 61, 62, 63, 64, 65, 66, 67, 68, 69, 70, 71, 72, 73, 74, 75] rfl (by decide +kernel)
set_option maxRecDepth 20000 in
theorem gX1_hang_X0_nearCut : GoodIn wsX1_hang (wsV RX1 50 RX0 yX0_nearCut wsX0_nearCut) := goodIn_app (goodIn_r _ [53, 54, 55, 9] rfl (by decide +kernel)) ggX1_hang_X0_nearCut
set_option maxRecDepth 20000 in
theorem ggX1_leastOnWay_X1_stepsToRoot : GoodIn wsX1_leastOnWay wsX1_stepsToRoot := goodIn_r _ [12, 7, 13, 14, 15] rfl (by decide +kernel)
set_option maxRecDepth 20000 in
theorem gX1_leastOnWay_X1_stepsToRoot : GoodIn wsX1_leastOnWay (wsV RX1 55 RX1 yX1_stepsToRoot wsX1_stepsToRoot) := goodIn_app (goodIn_r _ [8, 9, 10, 11] rfl (by decide +kernel)) ggX1_leastOnWay_X1_stepsToRoot
set_option maxRecDepth 20000 in
theorem ggX1_leastAlike_X1_leastOnWay : GoodIn wsX1_leastAlike wsX1_leastOnWay := goodIn_r _ [5, 6, 7, 8, 9, 10, 11, 12, 13, 14, 15, 4, 16, 17, 18, 19] rfl (by decide +kernel)
set_option maxRecDepth 20000 in
theorem gX1_leastAlike_X1_leastOnWay : GoodIn wsX1_leastAlike (wsV RX1 63 RX1 yX1_leastOnWay wsX1_leastOnWay) := goodIn_app (goodIn_r _ [1, 2, 3, 4] rfl (by decide +kernel)) ggX1_leastAlike_X1_leastOnWay
set_option maxRecDepth 20000 in
theorem ggX1_partsBelow_X1_leastAlike : GoodIn wsX1_partsBelow wsX1_leastAlike := goodIn_r _ [5, 6, 7, 8, 4, 9, 10, 11, 12, 13, 14, 15, 16, 17, 18, 19, 20, 21, 22, 23] rfl (by decide +kernel)
set_option maxRecDepth 20000 in
theorem gX1_partsBelow_X1_leastAlike : GoodIn wsX1_partsBelow (wsV RX1 66 RX1 yX1_leastAlike wsX1_leastAlike) := goodIn_app (goodIn_r _ [1, 2, 3, 4] rfl (by decide +kernel)) ggX1_partsBelow_X1_leastAlike
set_option maxRecDepth 20000 in
theorem ggX2_init_X6_init : GoodIn wsX2_init wsX6_init := goodIn_r _ [3, 4, 5, 6] rfl (by decide +kernel)
set_option maxRecDepth 20000 in
theorem gX2_init_X6_init_n1 : GoodIn wsX2_init (wsX6_init) := ggX2_init_X6_init
set_option maxRecDepth 20000 in
theorem ggX3_hasPair_X3_hasPlace : GoodIn wsX3_hasPair wsX3_hasPlace := goodIn_r _ [5, 6, 7, 8, 9, 10, 11, 12, 13] rfl (by decide +kernel)
set_option maxRecDepth 20000 in
theorem gX3_hasPair_X3_hasPlace : GoodIn wsX3_hasPair (wsV RX3 34 RX3 yX3_hasPlace wsX3_hasPlace) := goodIn_app (goodIn_r _ [1, 2, 3, 4] rfl (by decide +kernel)) ggX3_hasPair_X3_hasPlace
set_option maxRecDepth 20000 in
theorem ggX3_missingLines_X3_isMissing : GoodIn wsX3_missingLines wsX3_isMissing := goodIn_r _ [6, 7, 8, 9, 10, 11, 12, 13, 14] rfl (by decide +kernel)
set_option maxRecDepth 20000 in
theorem gX3_missingLines_X3_isMissing : GoodIn wsX3_missingLines (wsV RX3 38 RX3 yX3_isMissing wsX3_isMissing) := goodIn_app (goodIn_r _ [2, 3, 4, 5] rfl (by decide +kernel)) ggX3_missingLines_X3_isMissing
set_option maxRecDepth 20000 in
theorem ggX3_isWhole_X3_isMissing : GoodIn wsX3_isWhole wsX3_isMissing := goodIn_r _ [8, 9, 10, 11, 12, 13, 14, 15, 16] rfl (by decide +kernel)
set_option maxRecDepth 20000 in
theorem gX3_isWhole_X3_isMissing : GoodIn wsX3_isWhole (wsV RX3 38 RX3 yX3_isMissing wsX3_isMissing) := goodIn_app (goodIn_r _ [4, 5, 6, 7] rfl (by decide +kernel)) ggX3_isWhole_X3_isMissing
set_option maxRecDepth 20000 in
theorem ggX3_join_X3_isMissing : GoodIn wsX3_join wsX3_isMissing := goodIn_r _ [9, 2, 13, 14, 15, 16, 17, 18, 19] rfl (by decide +kernel)
set_option maxRecDepth 20000 in
theorem gX3_join_X3_isMissing : GoodIn wsX3_join (wsV RX3 38 RX3 yX3_isMissing wsX3_isMissing) := goodIn_app (goodIn_r _ [5, 6, 7, 8] rfl (by decide +kernel)) ggX3_join_X3_isMissing
set_option maxRecDepth 20000 in
theorem ggX3_join_X3_renumbered : GoodIn wsX3_join wsX3_renumbered := goodIn_r _ [12] rfl (by decide +kernel)
set_option maxRecDepth 20000 in
theorem gX3_join_X3_renumbered : GoodIn wsX3_join (va_wsS RX3 42 yX3_renumbered wsX3_renumbered) := goodIn_app (goodIn_r _ [10, 11, 8] rfl (by decide +kernel)) ggX3_join_X3_renumbered
set_option maxRecDepth 20000 in
theorem ggX4_begin_J7_fill_53178 : GoodIn wsX4_begin wsJ7_fill_53178 := goodIn_r _ [7] rfl (by decide +kernel)
set_option maxRecDepth 20000 in
theorem gX4_begin_J7_fill_53178 : GoodIn wsX4_begin (va_wsS RX4 26 yJ7_fill_53178 wsJ7_fill_53178) := goodIn_app (goodIn_r _ [4, 5, 6] rfl (by decide +kernel)) ggX4_begin_J7_fill_53178
set_option maxRecDepth 20000 in
theorem ggX4_whole_X4_number : GoodIn wsX4_whole wsX4_number := goodIn_r _ [5, 6, 7, 8, 9, 10] rfl (by decide +kernel)
set_option maxRecDepth 20000 in
theorem gX4_whole_X4_number : GoodIn wsX4_whole (wsV RX4 32 RX4 yX4_number wsX4_number) := goodIn_app (goodIn_r _ [1, 2, 3, 4] rfl (by decide +kernel)) ggX4_whole_X4_number
set_option maxRecDepth 20000 in
theorem ggX4_moveRefusal_X4_isThere : GoodIn wsX4_moveRefusal wsX4_isThere := goodIn_r _ [6, 7, 16, 17, 18, 19] rfl (by decide +kernel)
set_option maxRecDepth 20000 in
theorem gX4_moveRefusal_X4_isThere : GoodIn wsX4_moveRefusal (wsV RX4 36 RX4 yX4_isThere wsX4_isThere) := goodIn_app (goodIn_r _ [2, 3, 4, 5] rfl (by decide +kernel)) ggX4_moveRefusal_X4_isThere
set_option maxRecDepth 20000 in
theorem ggX4_moveRefusal_X4_hasRow : GoodIn wsX4_moveRefusal wsX4_hasRow := goodIn_r _ [11, 7, 16, 17, 18, 19] rfl (by decide +kernel)
set_option maxRecDepth 20000 in
theorem gX4_moveRefusal_X4_hasRow : GoodIn wsX4_moveRefusal (wsV RX4 40 RX4 yX4_hasRow wsX4_hasRow) := goodIn_app (goodIn_r _ [8, 9, 10, 5] rfl (by decide +kernel)) ggX4_moveRefusal_X4_hasRow
set_option maxRecDepth 20000 in
theorem ggX4_moveRefusal_X4_hasNumbers : GoodIn wsX4_moveRefusal wsX4_hasNumbers := goodIn_r _ [15, 1, 16, 17, 18, 19] rfl (by decide +kernel)
set_option maxRecDepth 20000 in
theorem gX4_moveRefusal_X4_hasNumbers : GoodIn wsX4_moveRefusal (wsV RX4 44 RX4 yX4_hasNumbers wsX4_hasNumbers) := goodIn_app (goodIn_r _ [12, 13, 14, 5] rfl (by decide +kernel)) ggX4_moveRefusal_X4_hasNumbers
set_option maxRecDepth 20000 in
theorem ggX5_init_X6_init : GoodIn wsX5_init wsX6_init := goodIn_r _ [3, 4, 5, 6] rfl (by decide +kernel)
set_option maxRecDepth 20000 in
theorem gX5_init_X6_init_n1 : GoodIn wsX5_init (wsX6_init) := ggX5_init_X6_init
set_option maxRecDepth 20000 in
theorem ggX5_lets_X6_lets : GoodIn wsX5_lets wsX6_lets := goodIn_r _ [6] rfl (by decide +kernel)
set_option maxRecDepth 20000 in
theorem gX5_lets_X6_lets_s7 : GoodIn wsX5_lets (va_wsSU RX5 7 yX6_lets wsX6_lets) := goodIn_app (goodIn_of _ (by decide +kernel)) ggX5_lets_X6_lets
set_option maxRecDepth 20000 in
theorem ggX5_letsMark_X6_letsMark : GoodIn wsX5_letsMark wsX6_letsMark := goodIn_r _ [6] rfl (by decide +kernel)
set_option maxRecDepth 20000 in
theorem gX5_letsMark_X6_letsMark_s11 : GoodIn wsX5_letsMark (va_wsSU RX5 11 yX6_letsMark wsX6_letsMark) := goodIn_app (goodIn_of _ (by decide +kernel)) ggX5_letsMark_X6_letsMark
set_option maxRecDepth 20000 in
theorem ggX7_countCuts_X7_hunt : GoodIn wsX7_countCuts wsX7_hunt := goodIn_r _ [7, 8, 9, 10, 11, 2, 12, 13, 14, 15, 16, 17, 18, 6, 19, 20, 21, 22, 23, 24, 25, 26, 27, 28, 29, 30, 31, 32, 33, 34, 35, 36, 37, 38, 39, 40, 41, 42, 43, 44, 45, 46, 47, 48, 49, 50, 51, 52, 53, 54, 55, 56, 57] rfl (by decide +kernel)
set_option maxRecDepth 20000 in
theorem gX7_countCuts_X7_hunt : GoodIn wsX7_countCuts (wsV RX7 16 RX7 yX7_hunt wsX7_hunt) := goodIn_app (goodIn_r _ [3, 4, 5, 6] rfl (by decide +kernel)) ggX7_countCuts_X7_hunt
set_option maxRecDepth 20000 in
theorem ggX7_findCut_X7_hunt : GoodIn wsX7_findCut wsX7_hunt := goodIn_r _ [6, 7, 8, 9, 10, 11, 1, 12, 13, 14, 15, 16, 17, 5, 18, 19, 20, 21, 22, 23, 24, 25, 26, 27, 28, 29, 30, 31, 32, 33, 34, 35, 36, 37, 38, 39, 40, 41, 42, 43, 44, 45, 46, 47, 48, 49, 50, 51, 52, 53, 54, 55, 56] rfl (by decide +kernel)
set_option maxRecDepth 20000 in
theorem gX7_findCut_X7_hunt : GoodIn wsX7_findCut (wsV RX7 16 RX7 yX7_hunt wsX7_hunt) := goodIn_app (goodIn_r _ [2, 3, 4, 5] rfl (by decide +kernel)) ggX7_findCut_X7_hunt
set_option maxRecDepth 20000 in
theorem ggX7_hunt_X7_chooseForCut : GoodIn wsX7_hunt wsX7_chooseForCut := goodIn_r _ [14, 3, 6, 1, 2, 15, 16, 17, 13, 18, 5, 4, 19, 20, 21, 22, 7, 8, 9, 23, 10, 11, 12, 24, 25, 26, 27, 28, 29, 30, 31, 32, 33, 34, 35, 36, 37, 38, 39, 40, 41, 42, 43, 44, 45, 46, 47, 48, 49, 50, 51, 52] rfl (by decide +kernel)
set_option maxRecDepth 20000 in
theorem gX7_hunt_X7_chooseForCut : GoodIn wsX7_hunt (wsV RX7 50 RX7 yX7_chooseForCut wsX7_chooseForCut) := goodIn_app (goodIn_r _ [10, 11, 12, 13] rfl (by decide +kernel)) ggX7_hunt_X7_chooseForCut
set_option maxRecDepth 20000 in
theorem ggX7_chooseForCut_X7_meet : GoodIn wsX7_chooseForCut wsX7_meet := goodIn_r _ [9, 1, 10, 11, 2, 27, 28, 29, 30, 31, 32, 33, 34, 35] rfl (by decide +kernel)
set_option maxRecDepth 20000 in
theorem gX7_chooseForCut_X7_meet : GoodIn wsX7_chooseForCut (wsV RX7 54 RX7 yX7_meet wsX7_meet) := goodIn_app (goodIn_r _ [5, 6, 7, 8] rfl (by decide +kernel)) ggX7_chooseForCut_X7_meet
set_option maxRecDepth 20000 in
theorem ggX7_chooseForCut_X7_letIn : GoodIn wsX7_chooseForCut wsX7_letIn := goodIn_r _ [15, 16, 17, 18, 19, 27, 28, 29, 30, 31, 32, 33, 34, 35, 36, 37, 38, 39, 40, 41, 42, 43, 44, 45, 46, 47, 48, 49, 50, 51] rfl (by decide +kernel)
set_option maxRecDepth 20000 in
theorem gX7_chooseForCut_X7_letIn : GoodIn wsX7_chooseForCut (wsV RX7 58 RX7 yX7_letIn wsX7_letIn) := goodIn_app (goodIn_r _ [12, 13, 14, 8] rfl (by decide +kernel)) ggX7_chooseForCut_X7_letIn
set_option maxRecDepth 20000 in
theorem ggX7_chooseForCut_X7_chooseForCut : GoodIn wsX7_chooseForCut wsX7_chooseForCut := goodIn_r _ [0, 1, 2, 3, 4, 5, 6, 7, 8, 9, 10, 11, 12, 13, 14, 15, 16, 17, 18, 19, 20, 21, 22, 23, 24, 25, 26, 27, 28, 29, 30, 31, 32, 33, 34, 35, 36, 37, 38, 39, 40, 41, 42, 43, 44, 45, 46, 47, 48, 49, 50, 51] rfl (by decide +kernel)
set_option maxRecDepth 20000 in
theorem gX7_chooseForCut_X7_chooseForCut : GoodIn wsX7_chooseForCut (wsV RX7 50 RX7 yX7_chooseForCut wsX7_chooseForCut) := goodIn_app (goodIn_r _ [20, 21, 22, 8] rfl (by decide +kernel)) ggX7_chooseForCut_X7_chooseForCut
set_option maxRecDepth 20000 in
theorem ggX7_chooseForCut_X7_letOut : GoodIn wsX7_chooseForCut wsX7_letOut := goodIn_r _ [26, 16, 17, 18, 19, 27, 28, 29, 30, 31, 32, 33, 34, 35, 36, 37, 38, 39, 40, 41, 42, 43, 44, 45, 46, 47, 48, 49, 50, 51] rfl (by decide +kernel)
set_option maxRecDepth 20000 in
theorem gX7_chooseForCut_X7_letOut : GoodIn wsX7_chooseForCut (wsV RX7 62 RX7 yX7_letOut wsX7_letOut) := goodIn_app (goodIn_r _ [23, 24, 25, 8] rfl (by decide +kernel)) ggX7_chooseForCut_X7_letOut
set_option maxRecDepth 20000 in
theorem ggX7_findDensest_X7_chooseForDense : GoodIn wsX7_findDensest wsX7_chooseForDense := goodIn_r _ [10, 11, 12, 13, 9, 14, 1, 2, 15, 16, 17, 18, 19, 20, 21, 6, 7, 8, 22, 23, 24, 25, 3, 4, 5, 26, 27, 28, 29, 30, 31, 32, 33, 34, 35, 36, 37, 38, 39, 40, 41, 42, 43, 44, 45, 46, 47, 48, 49, 50, 51] rfl (by decide +kernel)
set_option maxRecDepth 20000 in
theorem gX7_findDensest_X7_chooseForDense : GoodIn wsX7_findDensest (wsV RX7 75 RX7 yX7_chooseForDense wsX7_chooseForDense) := goodIn_app (goodIn_r _ [6, 7, 8, 9] rfl (by decide +kernel)) ggX7_findDensest_X7_chooseForDense
set_option maxRecDepth 20000 in
theorem ggX7_chooseForDense_X7_compareDense : GoodIn wsX7_chooseForDense wsX7_compareDense := goodIn_r _ [5, 6, 7, 8, 9, 10, 11, 12, 13, 14, 26, 27, 28, 29, 30, 31, 32, 33, 34] rfl (by decide +kernel)
set_option maxRecDepth 20000 in
theorem gX7_chooseForDense_X7_compareDense : GoodIn wsX7_chooseForDense (wsV RX7 78 RX7 yX7_compareDense wsX7_compareDense) := goodIn_app (goodIn_r _ [1, 2, 3, 4] rfl (by decide +kernel)) ggX7_chooseForDense_X7_compareDense
set_option maxRecDepth 20000 in
theorem ggX7_chooseForDense_X7_chooseForDense : GoodIn wsX7_chooseForDense wsX7_chooseForDense := goodIn_r _ [0, 1, 2, 3, 4, 5, 6, 7, 8, 9, 10, 11, 12, 13, 14, 15, 16, 17, 18, 19, 20, 21, 22, 23, 24, 25, 26, 27, 28, 29, 30, 31, 32, 33, 34, 35, 36, 37, 38, 39, 40, 41, 42, 43, 44, 45, 46, 47, 48, 49, 50] rfl (by decide +kernel)
set_option maxRecDepth 20000 in
theorem gX7_chooseForDense_X7_chooseForDense : GoodIn wsX7_chooseForDense (wsV RX7 75 RX7 yX7_chooseForDense wsX7_chooseForDense) := goodIn_app (goodIn_r _ [15, 16, 17, 4] rfl (by decide +kernel)) ggX7_chooseForDense_X7_chooseForDense
set_option maxRecDepth 20000 in
theorem ggX7_chooseForDense_X7_letIn : GoodIn wsX7_chooseForDense wsX7_letIn := goodIn_r _ [21, 22, 23, 24, 25, 26, 27, 28, 29, 30, 31, 32, 33, 34, 35, 36, 37, 38, 39, 40, 41, 42, 43, 44, 45, 46, 47, 48, 49, 50] rfl (by decide +kernel)
set_option maxRecDepth 20000 in
theorem gX7_chooseForDense_X7_letIn : GoodIn wsX7_chooseForDense (wsV RX7 58 RX7 yX7_letIn wsX7_letIn) := goodIn_app (goodIn_r _ [18, 19, 20, 4] rfl (by decide +kernel)) ggX7_chooseForDense_X7_letIn
set_option maxRecDepth 20000 in
theorem ggX7_compareDense_J6_bitCount_0f7a4 : GoodIn wsX7_compareDense wsJ6_bitCount_0f7a4 := goodIn_r _ [6, 7, 8, 9] rfl (by decide +kernel)
set_option maxRecDepth 20000 in
theorem gX7_compareDense_J6_bitCount_0f7a4 : GoodIn wsX7_compareDense (va_wsS RX7 81 yJ6_bitCount_0f7a4 wsJ6_bitCount_0f7a4) := goodIn_app (goodIn_r _ [3, 4, 5] rfl (by decide +kernel)) ggX7_compareDense_J6_bitCount_0f7a4
set_option maxRecDepth 20000 in
theorem ggX8_init_X2_init : GoodIn wsX8_init wsX2_init := goodIn_r _ [3, 4, 5, 6, 7, 8, 9] rfl (by decide +kernel)
set_option maxRecDepth 20000 in
theorem gX8_init_X2_init_n1 : GoodIn wsX8_init (wsX2_init) := ggX8_init_X2_init
set_option maxRecDepth 20000 in
theorem ggX8_costs_X2_costs : GoodIn wsX8_costs wsX2_costs := goodIn_r _ [6] rfl (by decide +kernel)
set_option maxRecDepth 20000 in
theorem gX8_costs_X2_costs_s7 : GoodIn wsX8_costs (va_wsSU RX8 7 yX2_costs wsX2_costs) := goodIn_app (goodIn_of _ (by decide +kernel)) ggX8_costs_X2_costs
set_option maxRecDepth 20000 in
theorem ggX8_costsMark_X2_costsMark : GoodIn wsX8_costsMark wsX2_costsMark := goodIn_r _ [7] rfl (by decide +kernel)
set_option maxRecDepth 20000 in
theorem gX8_costsMark_X2_costsMark_s12 : GoodIn wsX8_costsMark (va_wsSU RX8 12 yX2_costsMark wsX2_costsMark) := goodIn_app (goodIn_of _ (by decide +kernel)) ggX8_costsMark_X2_costsMark
set_option maxRecDepth 20000 in
theorem ggX9_init_X6_init : GoodIn wsX9_init wsX6_init := goodIn_r _ [3, 4, 5, 6] rfl (by decide +kernel)
set_option maxRecDepth 20000 in
theorem gX9_init_X6_init_n3 : GoodIn wsX9_init (wsX6_init) := ggX9_init_X6_init
set_option maxRecDepth 20000 in
theorem ggX10_pay_X10_findPrices : GoodIn wsX10_pay wsX10_findPrices := goodIn_r _ [7, 8, 9, 10, 11, 2, 12, 13, 14, 15, 16, 17, 18, 19, 20, 21, 22, 23, 24, 25, 26, 27, 28, 29, 30, 31, 32, 33, 34, 35, 36, 37, 38, 39, 40, 41, 42, 43, 44, 45, 46, 47, 48, 49, 50, 51, 52, 79, 80, 81, 82, 83, 84, 85, 86, 87, 88, 89, 90, 91, 92, 93, 94, 95, 96, 97, 98, 99] rfl (by decide +kernel)
set_option maxRecDepth 20000 in
theorem gX10_pay_X10_findPrices : GoodIn wsX10_pay (wsV RX10 31 RX10 yX10_findPrices wsX10_findPrices) := goodIn_app (goodIn_r _ [3, 4, 5, 6] rfl (by decide +kernel)) ggX10_pay_X10_findPrices
set_option maxRecDepth 20000 in
theorem ggX10_pay_X10_findCosts : GoodIn wsX10_pay wsX10_findCosts := goodIn_r _ [56, 8, 9, 10, 1, 2, 22, 23, 24, 25, 57, 58, 59, 6, 60, 61, 62, 63, 64, 65, 66, 11, 79, 80, 81, 82, 83, 84, 85, 86, 87, 88, 89, 90, 91, 92, 93, 94, 95, 96, 97, 98, 99] rfl (by decide +kernel)
set_option maxRecDepth 20000 in
theorem gX10_pay_X10_findCosts : GoodIn wsX10_pay (wsV RX10 34 RX10 yX10_findCosts wsX10_findCosts) := goodIn_app (goodIn_r _ [53, 54, 55, 6] rfl (by decide +kernel)) ggX10_pay_X10_findCosts
set_option maxRecDepth 20000 in
theorem ggX10_pay_X10_roomOfWay : GoodIn wsX10_pay wsX10_roomOfWay := goodIn_r _ [70, 61, 18, 19, 20, 21, 71, 72, 73, 6, 74, 8, 66, 2, 79, 80, 81, 82, 83, 84, 85, 86, 87, 88, 89, 90, 91, 92] rfl (by decide +kernel)
set_option maxRecDepth 20000 in
theorem gX10_pay_X10_roomOfWay : GoodIn wsX10_pay (wsV RX10 39 RX10 yX10_roomOfWay wsX10_roomOfWay) := goodIn_app (goodIn_r _ [67, 68, 69, 6] rfl (by decide +kernel)) ggX10_pay_X10_roomOfWay
set_option maxRecDepth 20000 in
theorem ggX10_pay_X10_sendAlongWay : GoodIn wsX10_pay wsX10_sendAlongWay := goodIn_r _ [78, 8, 66, 61, 79, 80, 81, 82, 83, 84, 85, 86, 87, 88, 89, 90, 91, 92] rfl (by decide +kernel)
set_option maxRecDepth 20000 in
theorem gX10_pay_X10_sendAlongWay : GoodIn wsX10_pay (wsV RX10 43 RX10 yX10_sendAlongWay wsX10_sendAlongWay) := goodIn_app (goodIn_r _ [75, 76, 77, 6] rfl (by decide +kernel)) ggX10_pay_X10_sendAlongWay
set_option maxRecDepth 20000 in
theorem ggX10_findPrices_J7_fill_53178 : GoodIn wsX10_findPrices wsJ7_fill_53178 := goodIn_r _ [19] rfl (by decide +kernel)
set_option maxRecDepth 20000 in
theorem gX10_findPrices_J7_fill_53178 : GoodIn wsX10_findPrices (va_wsS RX10 59 yJ7_fill_53178 wsJ7_fill_53178) := goodIn_app (goodIn_r _ [16, 17, 18] rfl (by decide +kernel)) ggX10_findPrices_J7_fill_53178
set_option maxRecDepth 20000 in
theorem ggX10_findPrices_X2_costs : GoodIn wsX10_findPrices wsX2_costs := goodIn_r _ [26] rfl (by decide +kernel)
set_option maxRecDepth 20000 in
theorem gX10_findPrices_X2_costs_u72X2 : GoodIn wsX10_findPrices (va_wsO RX10 72 RX2 "CutAtlas$PlainKind" ⟨"CutAtlas$PlainKind", "costs", "(I)I"⟩ yX2_costs wsX2_costs) := goodIn_app (goodIn_of _ (by decide +kernel)) ggX10_findPrices_X2_costs
set_option maxRecDepth 20000 in
theorem ggX10_findPrices_X6_costs : GoodIn wsX10_findPrices wsX6_costs := goodIn_r _ [27] rfl (by decide +kernel)
set_option maxRecDepth 20000 in
theorem gX10_findPrices_X6_costs_u72X5 : GoodIn wsX10_findPrices (va_wsU RX10 72 RX5 "CutAtlas$PlainKind" ⟨"CutAtlas$PlainKind", "costs", "(I)I"⟩ yX6_costs wsX6_costs) := goodIn_app (goodIn_of _ (by decide +kernel)) ggX10_findPrices_X6_costs
set_option maxRecDepth 20000 in
theorem gX10_findPrices_X6_costs : GoodIn wsX10_findPrices (wsV RX10 72 RX6 yX6_costs wsX6_costs) := goodIn_app (goodIn_r _ [31, 29, 32, 30] rfl (by decide +kernel)) ggX10_findPrices_X6_costs
set_option maxRecDepth 20000 in
theorem ggX10_findPrices_X8_costs : GoodIn wsX10_findPrices wsX8_costs := goodIn_r _ [36, 37, 38, 39, 24, 25, 26] rfl (by decide +kernel)
set_option maxRecDepth 20000 in
theorem gX10_findPrices_X8_costs_u72X8 : GoodIn wsX10_findPrices (va_wsO RX10 72 RX8 "CutAtlas$PlainKind" ⟨"CutAtlas$PlainKind", "costs", "(I)I"⟩ yX8_costs wsX8_costs) := goodIn_app (goodIn_of _ (by decide +kernel)) ggX10_findPrices_X8_costs
set_option maxRecDepth 20000 in
theorem gX10_findPrices_X6_costs_u72X9 : GoodIn wsX10_findPrices (va_wsU RX10 72 RX9 "CutAtlas$PlainKind" ⟨"CutAtlas$PlainKind", "costs", "(I)I"⟩ yX6_costs wsX6_costs) := goodIn_app (goodIn_of _ (by decide +kernel)) ggX10_findPrices_X6_costs
set_option maxRecDepth 20000 in
theorem ggX10_findPrices_X3_isMissing : GoodIn wsX10_findPrices wsX3_isMissing := goodIn_r _ [45, 46, 61, 62, 63, 64, 65, 66, 67] rfl (by decide +kernel)
set_option maxRecDepth 20000 in
theorem gX10_findPrices_X3_isMissing : GoodIn wsX10_findPrices (wsV RX10 77 RX3 yX3_isMissing wsX3_isMissing) := goodIn_app (goodIn_r _ [41, 42, 43, 44] rfl (by decide +kernel)) ggX10_findPrices_X3_isMissing
set_option maxRecDepth 20000 in
theorem ggX10_findCosts_J7_fill_53178 : GoodIn wsX10_findCosts wsJ7_fill_53178 := goodIn_r _ [9] rfl (by decide +kernel)
set_option maxRecDepth 20000 in
theorem gX10_findCosts_J7_fill_53178 : GoodIn wsX10_findCosts (va_wsS RX10 59 yJ7_fill_53178 wsJ7_fill_53178) := goodIn_app (goodIn_r _ [6, 7, 8] rfl (by decide +kernel)) ggX10_findCosts_J7_fill_53178
set_option maxRecDepth 20000 in
theorem ggX10_findCosts_X10_lookFrom : GoodIn wsX10_findCosts wsX10_lookFrom := goodIn_r _ [14, 1, 2, 3, 5, 4, 15, 16, 17, 18, 13, 19, 20, 21, 22, 23, 24, 25, 26, 27, 28, 29, 30, 31, 32, 33, 34, 35, 36, 37, 38, 39, 40, 41, 42] rfl (by decide +kernel)
set_option maxRecDepth 20000 in
theorem gX10_findCosts_X10_lookFrom : GoodIn wsX10_findCosts (wsV RX10 93 RX10 yX10_lookFrom wsX10_lookFrom) := goodIn_app (goodIn_r _ [10, 11, 12, 13] rfl (by decide +kernel)) ggX10_findCosts_X10_lookFrom
set_option maxRecDepth 20000 in
theorem ggX10_lookFrom_X10_stepCosts : GoodIn wsX10_lookFrom wsX10_stepCosts := goodIn_r _ [11, 1, 12, 13, 14, 15, 16, 17, 18, 19, 20, 21, 22, 23, 24, 25, 26, 27] rfl (by decide +kernel)
set_option maxRecDepth 20000 in
theorem gX10_lookFrom_X10_stepCosts : GoodIn wsX10_lookFrom (wsV RX10 96 RX10 yX10_stepCosts wsX10_stepCosts) := goodIn_app (goodIn_r _ [7, 8, 9, 10] rfl (by decide +kernel)) ggX10_lookFrom_X10_stepCosts
set_option maxRecDepth 20000 in
theorem ggX10_roomOfWay_X10_stepRoom : GoodIn wsX10_roomOfWay wsX10_stepRoom := goodIn_r _ [10, 11, 12, 13, 14, 15, 16, 17, 18, 19, 20, 21, 22, 23, 24, 25, 26, 27] rfl (by decide +kernel)
set_option maxRecDepth 20000 in
theorem gX10_roomOfWay_X10_stepRoom : GoodIn wsX10_roomOfWay (wsV RX10 102 RX10 yX10_stepRoom wsX10_stepRoom) := goodIn_app (goodIn_r _ [6, 7, 8, 9] rfl (by decide +kernel)) ggX10_roomOfWay_X10_stepRoom
set_option maxRecDepth 20000 in
theorem ggX11_init_X6_init : GoodIn wsX11_init wsX6_init := goodIn_r _ [50, 51, 2, 3] rfl (by decide +kernel)
set_option maxRecDepth 20000 in
theorem gX11_init_X6_init_n9 : GoodIn wsX11_init (wsX6_init) := ggX11_init_X6_init
set_option maxRecDepth 20000 in
theorem ggX11_init_X5_init : GoodIn wsX11_init wsX5_init := goodIn_r _ [53, 49, 6, 50, 51, 2, 3] rfl (by decide +kernel)
set_option maxRecDepth 20000 in
theorem gX11_init_X5_init_n12 : GoodIn wsX11_init (wsX5_init) := ggX11_init_X5_init
set_option maxRecDepth 20000 in
theorem ggX11_init_X9_init : GoodIn wsX11_init wsX9_init := goodIn_r _ [55, 49, 6, 50, 51, 2, 3] rfl (by decide +kernel)
set_option maxRecDepth 20000 in
theorem gX11_init_X9_init_n15 : GoodIn wsX11_init (wsX9_init) := ggX11_init_X9_init
set_option maxRecDepth 20000 in
theorem ggX11_init_X2_init : GoodIn wsX11_init wsX2_init := goodIn_r _ [57, 49, 6, 50, 51, 2, 3] rfl (by decide +kernel)
set_option maxRecDepth 20000 in
theorem gX11_init_X2_init_n18 : GoodIn wsX11_init (wsX2_init) := ggX11_init_X2_init
set_option maxRecDepth 20000 in
theorem ggX11_init_X8_init : GoodIn wsX11_init wsX8_init := goodIn_r _ [59, 56, 15, 57, 49, 6, 50, 51, 2, 3] rfl (by decide +kernel)
set_option maxRecDepth 20000 in
theorem gX11_init_X8_init_n21 : GoodIn wsX11_init (wsX8_init) := ggX11_init_X8_init
set_option maxRecDepth 20000 in
theorem ggX11_init_X3_init : GoodIn wsX11_init wsX3_init := goodIn_r _ [61, 62, 2, 3, 63, 64, 65, 66, 67, 68, 69, 70, 127, 128, 129, 130, 131, 132, 133] rfl (by decide +kernel)
set_option maxRecDepth 20000 in
theorem gX11_init_X3_init_n30 : GoodIn wsX11_init (wsX3_init) := ggX11_init_X3_init
set_option maxRecDepth 20000 in
theorem ggX11_init_X0_init : GoodIn wsX11_init wsX0_init := goodIn_r _ [73, 74, 2, 3, 75, 65, 76, 77, 78, 79, 80, 81, 82, 83, 84, 134, 135, 136, 137, 138, 139, 140, 141, 142] rfl (by decide +kernel)
set_option maxRecDepth 20000 in
theorem gX11_init_X0_init : GoodIn wsX11_init (wsX0_init) := ggX11_init_X0_init
set_option maxRecDepth 20000 in
theorem ggX11_init_X7_init : GoodIn wsX11_init wsX7_init := goodIn_r _ [87, 88, 2, 3, 89, 143, 144, 145, 146, 147, 148, 149, 150, 151] rfl (by decide +kernel)
set_option maxRecDepth 20000 in
theorem gX11_init_X7_init : GoodIn wsX11_init (wsX7_init) := ggX11_init_X7_init
set_option maxRecDepth 20000 in
theorem ggX11_init_X1_init : GoodIn wsX11_init wsX1_init := goodIn_r _ [92, 93, 2, 3, 65, 94, 95, 96, 152, 153, 154] rfl (by decide +kernel)
set_option maxRecDepth 20000 in
theorem gX11_init_X1_init : GoodIn wsX11_init (wsX1_init) := ggX11_init_X1_init
set_option maxRecDepth 20000 in
theorem ggX11_init_X10_init : GoodIn wsX11_init wsX10_init := goodIn_r _ [99, 100, 2, 3, 101, 65, 102, 103, 104, 105, 106, 155, 156, 157, 158, 159] rfl (by decide +kernel)
set_option maxRecDepth 20000 in
theorem gX11_init_X10_init : GoodIn wsX11_init (wsX10_init) := ggX11_init_X10_init
set_option maxRecDepth 20000 in
theorem ggX11_init_X4_init : GoodIn wsX11_init wsX4_init := goodIn_r _ [108, 109, 2, 3, 110, 111, 65, 112, 113, 114, 160, 161, 162, 163] rfl (by decide +kernel)
set_option maxRecDepth 20000 in
theorem gX11_init_X4_init_n71 : GoodIn wsX11_init (wsX4_init) := ggX11_init_X4_init
set_option maxRecDepth 20000 in
theorem ggX11_place_X11_remember : GoodIn wsX11_place wsX11_remember := goodIn_r _ [7, 8, 9, 10, 11, 12, 13, 1, 14, 15, 16, 17, 18, 19, 20, 21, 22, 23, 24, 25, 26, 27, 28, 29, 30, 31, 32, 33, 34, 35, 36, 37, 38, 39, 40, 41, 42, 43, 44, 45, 46, 47, 48, 49, 50, 51, 52, 53] rfl (by decide +kernel)
set_option maxRecDepth 20000 in
theorem gX11_place_X11_remember : GoodIn wsX11_place (wsV RX11 97 RX11 yX11_remember wsX11_remember) := goodIn_app (goodIn_r _ [3, 4, 5, 6] rfl (by decide +kernel)) ggX11_place_X11_remember
set_option maxRecDepth 20000 in
theorem ggX11_line_X11_lineRefusal : GoodIn wsX11_line wsX11_lineRefusal := goodIn_r _ [7, 8, 9, 10, 11, 12, 13, 14, 15, 16, 17, 18, 19, 20, 21, 22, 89, 90, 91, 92, 93, 94, 95, 96, 97, 98, 99, 100, 101, 102, 103, 104, 105, 106, 107] rfl (by decide +kernel)
set_option maxRecDepth 20000 in
theorem gX11_line_X11_lineRefusal : GoodIn wsX11_line (wsV RX11 100 RX11 yX11_lineRefusal wsX11_lineRefusal) := goodIn_app (goodIn_r _ [3, 4, 5, 6] rfl (by decide +kernel)) ggX11_line_X11_lineRefusal
