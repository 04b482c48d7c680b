section
set_option maxRecDepth 20000 in
theorem ggX0_load_J7_fill_53178 : GoodIn wsX0_load wsJ7_fill_53178 := gdp_In _ pcs_X0_load pc_X0_load [(1, 14)] rfl gw_J7_fill_53178
set_option maxRecDepth 20000 in
theorem gX0_load_J7_fill_53178 : GoodIn wsX0_load (va_wsS RX0 49 yJ7_fill_53178 wsJ7_fill_53178) := goodIn_app (gdp_In _ pcs_X0_load pc_X0_load [(1, 11), (1, 12), (1, 13)] rfl (gw_S _ _ _)) ggX0_load_J7_fill_53178
set_option maxRecDepth 20000 in
theorem ggX0_load_X3_isMissing : GoodIn wsX0_load wsX3_isMissing := gdp_In _ pcs_X0_load pc_X0_load [(1, 19), (1, 20), (4, 0), (4, 1), (4, 2), (4, 3), (4, 4), (4, 5), (4, 6)] rfl gw_X3_isMissing
set_option maxRecDepth 20000 in
theorem gX0_load_X3_isMissing : GoodIn wsX0_load (wsV RX0 58 RX3 yX3_isMissing wsX3_isMissing) := goodIn_app (gdp_In _ pcs_X0_load pc_X0_load [(1, 15), (1, 16), (1, 17), (1, 18)] rfl (gw_V _ _ _ _)) ggX0_load_X3_isMissing
set_option maxRecDepth 20000 in
theorem ggX0_load_X6_lets : GoodIn wsX0_load wsX6_lets := gdp_In _ pcs_X0_load pc_X0_load [(2, 2)] rfl gw_X6_lets
set_option maxRecDepth 20000 in
theorem gX0_load_X6_lets_u67X2 : GoodIn wsX0_load (va_wsU RX0 67 RX2 "CutAtlas$PlainKind" ⟨"CutAtlas$PlainKind", "lets", "(IZ)I"⟩ yX6_lets wsX6_lets) := goodIn_app (goodIn_of _ (by decide +kernel)) ggX0_load_X6_lets
set_option maxRecDepth 20000 in
theorem ggX0_load_X5_lets : GoodIn wsX0_load wsX5_lets := gdp_In _ pcs_X0_load pc_X0_load [(2, 7), (2, 8), (1, 22), (2, 9), (2, 0), (2, 1), (2, 2)] rfl gw_X5_lets
set_option maxRecDepth 20000 in
theorem gX0_load_X5_lets_u67X5 : GoodIn wsX0_load (va_wsO RX0 67 RX5 "CutAtlas$PlainKind" ⟨"CutAtlas$PlainKind", "lets", "(IZ)I"⟩ yX5_lets wsX5_lets) := goodIn_app (goodIn_of _ (by decide +kernel)) ggX0_load_X5_lets
set_option maxRecDepth 20000 in
theorem gX0_load_X6_lets : GoodIn wsX0_load (wsV RX0 67 RX6 yX6_lets wsX6_lets) := goodIn_app (gdp_In _ pcs_X0_load pc_X0_load [(2, 10), (2, 0), (2, 11), (2, 1)] rfl (gw_V _ _ _ _)) ggX0_load_X6_lets
set_option maxRecDepth 20000 in
theorem gX0_load_X6_lets_u67X8 : GoodIn wsX0_load (va_wsU RX0 67 RX8 "CutAtlas$PlainKind" ⟨"CutAtlas$PlainKind", "lets", "(IZ)I"⟩ yX6_lets wsX6_lets) := goodIn_app (goodIn_of _ (by decide +kernel)) ggX0_load_X6_lets
set_option maxRecDepth 20000 in
theorem ggX0_load_X9_lets : GoodIn wsX0_load wsX9_lets := gdp_In _ pcs_X0_load pc_X0_load [(2, 16)] rfl gw_X9_lets
set_option maxRecDepth 20000 in
theorem gX0_load_X9_lets_u67X9 : GoodIn wsX0_load (va_wsO RX0 67 RX9 "CutAtlas$PlainKind" ⟨"CutAtlas$PlainKind", "lets", "(IZ)I"⟩ yX9_lets wsX9_lets) := goodIn_app (goodIn_of _ (by decide +kernel)) ggX0_load_X9_lets
set_option maxRecDepth 20000 in
theorem ggX0_load_X0_asRoom : GoodIn wsX0_load wsX0_asRoom := gdp_In _ pcs_X0_load pc_X0_load [(2, 20), (2, 21)] rfl gw_X0_asRoom
set_option maxRecDepth 20000 in
theorem gX0_load_X0_asRoom : GoodIn wsX0_load (va_wsS RX0 72 yX0_asRoom wsX0_asRoom) := goodIn_app (gdp_In _ pcs_X0_load pc_X0_load [(2, 17), (2, 18), (2, 19)] rfl (gw_S _ _ _)) ggX0_load_X0_asRoom
set_option maxRecDepth 20000 in
theorem ggX0_fill_J7_fill_53178 : GoodIn wsX0_fill wsJ7_fill_53178 := gdp_In _ pcs_X0_fill pc_X0_fill [(1, 13)] rfl gw_J7_fill_53178
set_option maxRecDepth 20000 in
theorem gX0_fill_J7_fill_53178 : GoodIn wsX0_fill (va_wsS RX0 49 yJ7_fill_53178 wsJ7_fill_53178) := goodIn_app (gdp_In _ pcs_X0_fill pc_X0_fill [(1, 10), (1, 11), (1, 12)] rfl (gw_S _ _ _)) ggX0_fill_J7_fill_53178
set_option maxRecDepth 20000 in
theorem ggX0_fill_X0_reachedFrom : GoodIn wsX0_fill wsX0_reachedFrom := gdp_In _ pcs_X0_fill pc_X0_fill [(1, 18), (1, 19), (1, 1), (1, 2), (1, 4), (3, 0), (3, 1), (3, 2), (3, 3), (3, 4), (3, 5), (3, 6), (3, 7), (3, 8), (4, 0), (4, 1), (4, 2), (4, 3), (4, 4), (4, 5), (4, 6)] rfl gw_X0_reachedFrom
set_option maxRecDepth 20000 in
theorem gX0_fill_X0_reachedFrom : GoodIn wsX0_fill (wsV RX0 89 RX0 yX0_reachedFrom wsX0_reachedFrom) := goodIn_app (gdp_In _ pcs_X0_fill pc_X0_fill [(1, 14), (1, 15), (1, 16), (1, 17)] rfl (gw_V _ _ _ _)) ggX0_fill_X0_reachedFrom
set_option maxRecDepth 20000 in
theorem ggX0_fill_X0_findWay : GoodIn wsX0_fill wsX0_findWay := gdp_In _ pcs_X0_fill pc_X0_fill [(1, 23), (1, 19), (1, 1), (1, 2), (1, 4), (2, 0), (3, 0), (3, 1), (3, 2), (3, 3), (3, 4), (3, 5), (3, 6), (3, 7), (3, 8), (4, 0), (4, 1), (4, 2), (4, 3), (4, 4), (4, 5), (4, 6)] rfl gw_X0_findWay
set_option maxRecDepth 20000 in
theorem gX0_fill_X0_findWay : GoodIn wsX0_fill (wsV RX0 93 RX0 yX0_findWay wsX0_findWay) := goodIn_app (gdp_In _ pcs_X0_fill pc_X0_fill [(1, 20), (1, 21), (1, 22), (1, 17)] rfl (gw_V _ _ _ _)) ggX0_fill_X0_findWay
set_option maxRecDepth 20000 in
theorem ggX0_fill_X0_sendAlongWay : GoodIn wsX0_fill wsX0_sendAlongWay := gdp_In _ pcs_X0_fill pc_X0_fill [(2, 4), (2, 5), (1, 4), (2, 0), (2, 6), (2, 7), (2, 8), (2, 9), (2, 10), (2, 11), (2, 12), (1, 17), (2, 13), (1, 1), (2, 14), (2, 15), (2, 16), (2, 17), (1, 0), (2, 18), (3, 0), (3, 1), (3, 2), (3, 3), (3, 4), (3, 5), (3, 6), (3, 7), (3, 8), (4, 0), (4, 1), (4, 2), (4, 3), (4, 4), (4, 5), (4, 6)] rfl gw_X0_sendAlongWay
set_option maxRecDepth 20000 in
theorem gX0_fill_X0_sendAlongWay : GoodIn wsX0_fill (wsV RX0 97 RX0 yX0_sendAlongWay wsX0_sendAlongWay) := goodIn_app (gdp_In _ pcs_X0_fill pc_X0_fill [(2, 1), (2, 2), (2, 3), (1, 17)] rfl (gw_V _ _ _ _)) ggX0_fill_X0_sendAlongWay
set_option maxRecDepth 20000 in
theorem ggX0_sendAlongWay_X0_sendOver : GoodIn wsX0_sendAlongWay wsX0_sendOver := goodIn_r _ [12, 2, 13, 14, 15, 16, 17, 18, 4, 5, 6, 7, 19, 20, 21, 22, 23, 24, 25, 26, 27, 28, 29, 30, 31, 32, 33, 34, 35] rfl gw_X0_sendOver
set_option maxRecDepth 20000 in
theorem gX0_sendAlongWay_X0_sendOver : GoodIn wsX0_sendAlongWay (wsV RX0 106 RX0 yX0_sendOver wsX0_sendOver) := goodIn_app (goodIn_r _ [8, 9, 10, 11] rfl (gw_V _ _ _ _)) ggX0_sendAlongWay_X0_sendOver
set_option maxRecDepth 20000 in
theorem ggX0_nearCut_X0_reachedFrom : GoodIn wsX0_nearCut wsX0_reachedFrom := goodIn_r _ [5, 6, 7, 8, 9, 10, 11, 12, 13, 14, 15, 16, 17, 18, 19, 20, 21, 22, 23, 24, 25] rfl gw_X0_reachedFrom
set_option maxRecDepth 20000 in
theorem gX0_nearCut_X0_reachedFrom : GoodIn wsX0_nearCut (wsV RX0 89 RX0 yX0_reachedFrom wsX0_reachedFrom) := goodIn_app (goodIn_r _ [1, 2, 3, 4] rfl (gw_V _ _ _ _)) ggX0_nearCut_X0_reachedFrom
set_option maxRecDepth 20000 in
theorem ggX0_farCut_X0_reaching : GoodIn wsX0_farCut wsX0_reaching := goodIn_r _ [7, 8, 1, 2, 9, 10, 11, 12, 13, 14, 15, 16, 17, 18, 19, 20, 21, 22, 23, 24, 25] rfl gw_X0_reaching
set_option maxRecDepth 20000 in
theorem gX0_farCut_X0_reaching : GoodIn wsX0_farCut (wsV RX0 110 RX0 yX0_reaching wsX0_reaching) := goodIn_app (goodIn_r _ [3, 4, 5, 6] rfl (gw_V _ _ _ _)) ggX0_farCut_X0_reaching
set_option maxRecDepth 20000 in
theorem ggX0_leaving_X0_betweenSets : GoodIn wsX0_leaving wsX0_betweenSets := goodIn_r _ [7, 1, 2, 8, 9, 10, 11, 12, 13, 14, 15, 16, 17, 18, 19, 20, 21, 22, 23, 24] rfl gw_X0_betweenSets
set_option maxRecDepth 20000 in
theorem gX0_leaving_X0_betweenSets : GoodIn wsX0_leaving (wsV RX0 113 RX0 yX0_betweenSets wsX0_betweenSets) := goodIn_app (goodIn_r _ [3, 4, 5, 6] rfl (gw_V _ _ _ _)) ggX0_leaving_X0_betweenSets
set_option maxRecDepth 20000 in
theorem ggX1_grow_X0_load : GoodIn wsX1_grow wsX0_load := gdp_In _ pcs_X1_grow pc_X1_grow [(1, 9), (1, 10), (1, 11), (1, 12), (1, 13), (1, 14), (1, 15), (1, 16), (1, 17), (1, 18), (1, 19), (1, 20), (1, 21), (1, 22), (1, 23), (2, 0), (2, 1), (2, 2), (2, 3), (2, 4), (2, 5), (2, 6), (2, 7), (2, 8), (2, 9), (2, 10), (2, 11), (2, 12), (2, 13), (2, 14), (2, 15), (2, 16), (2, 17), (2, 18), (2, 19), (2, 20), (2, 21), (2, 22), (2, 23), (3, 0), (3, 1), (3, 2), (3, 3), (3, 4), (1, 8), (3, 5), (3, 6), (7, 0), (7, 1), (7, 2), (7, 3), (7, 4), (7, 5), (7, 6), (7, 7), (7, 8), (8, 0), (8, 1), (8, 2), (8, 3), (8, 4), (8, 5), (8, 6)] rfl gw_X0_load
set_option maxRecDepth 20000 in
theorem gX1_grow_X0_load : GoodIn wsX1_grow (wsV RX1 22 RX0 yX0_load wsX0_load) := goodIn_app (gdp_In _ pcs_X1_grow pc_X1_grow [(1, 5), (1, 6), (1, 7), (1, 8)] rfl (gw_V _ _ _ _)) ggX1_grow_X0_load
set_option maxRecDepth 20000 in
theorem ggX1_grow_J7_fill_53178 : GoodIn wsX1_grow wsJ7_fill_53178 := gdp_In _ pcs_X1_grow pc_X1_grow [(2, 0)] rfl gw_J7_fill_53178
set_option maxRecDepth 20000 in
theorem gX1_grow_J7_fill_53178 : GoodIn wsX1_grow (va_wsS RX1 28 yJ7_fill_53178 wsJ7_fill_53178) := goodIn_app (gdp_In _ pcs_X1_grow pc_X1_grow [(3, 7), (1, 22), (1, 23)] rfl (gw_S _ _ _)) ggX1_grow_J7_fill_53178
set_option maxRecDepth 20000 in
theorem ggX1_grow_X1_hang : GoodIn wsX1_grow wsX1_hang := gdp_In _ pcs_X1_grow pc_X1_grow [(3, 12), (1, 1), (1, 0), (1, 2), (1, 3), (1, 4), (3, 13), (3, 14), (3, 15), (1, 8), (3, 16), (3, 17), (1, 10), (1, 11), (1, 12), (3, 18), (3, 19), (3, 20), (3, 21), (3, 22), (3, 6), (1, 21), (1, 22), (1, 23), (2, 0), (3, 23), (4, 0), (4, 1), (4, 2), (4, 3), (4, 4), (4, 5), (4, 6), (4, 7), (4, 8), (4, 9), (4, 10), (4, 11), (4, 12), (4, 13), (4, 14), (4, 15), (4, 16), (4, 17), (4, 18), (4, 19), (4, 20), (4, 21), (1, 13), (1, 19), (1, 20), (1, 17), (1, 18), (4, 22), (4, 23), (5, 0), (5, 1), (6, 0), (6, 1), (6, 2), (7, 0), (7, 1), (7, 2), (7, 3), (7, 4), (7, 5), (7, 6), (7, 7), (7, 8), (8, 0), (8, 1), (8, 2), (8, 3), (8, 4), (8, 5), (8, 6)] rfl gw_X1_hang
set_option maxRecDepth 20000 in
theorem gX1_grow_X1_hang : GoodIn wsX1_grow (wsV RX1 44 RX1 yX1_hang wsX1_hang) := goodIn_app (gdp_In _ pcs_X1_grow pc_X1_grow [(3, 8), (3, 9), (3, 10), (3, 11)] rfl (gw_V _ _ _ _)) ggX1_grow_X1_hang
set_option maxRecDepth 20000 in
theorem ggX1_hang_X0_fill : GoodIn wsX1_hang wsX0_fill := gdp_In _ pcs_X1_hang pc_X1_hang [(1, 9), (1, 10), (1, 11), (1, 12), (1, 13), (1, 14), (1, 15), (1, 16), (1, 17), (1, 18), (1, 19), (1, 20), (1, 21), (1, 22), (1, 23), (2, 0), (2, 1), (2, 2), (1, 8), (2, 3), (2, 4), (2, 5), (2, 6), (2, 7), (2, 8), (2, 9), (2, 10), (2, 11), (2, 12), (2, 13), (2, 14), (2, 15), (2, 16), (2, 17), (2, 18), (2, 19), (2, 20), (2, 21), (2, 22), (2, 23), (3, 0), (3, 1), (3, 2), (3, 3), (5, 0), (5, 1), (5, 2), (5, 3), (5, 4), (5, 5), (5, 6), (5, 7), (5, 8), (6, 0), (6, 1), (6, 2), (6, 3), (6, 4), (6, 5), (6, 6)] rfl gw_X0_fill
set_option maxRecDepth 20000 in
theorem gX1_hang_X0_fill : GoodIn wsX1_hang (wsV RX1 47 RX0 yX0_fill wsX0_fill) := goodIn_app (gdp_In _ pcs_X1_hang pc_X1_hang [(1, 5), (1, 6), (1, 7), (1, 8)] rfl (gw_V _ _ _ _)) ggX1_hang_X0_fill
set_option maxRecDepth 20000 in
theorem ggX1_hang_X0_nearCut : GoodIn wsX1_hang wsX0_nearCut := gdp_In _ pcs_X1_hang pc_X1_hang [(3, 7), (2, 0), (2, 1), (2, 2), (1, 8), (2, 3), (2, 4), (1, 11), (1, 12), (1, 14), (5, 0), (5, 1), (5, 2), (5, 3), (5, 4), (5, 5), (5, 6), (5, 7), (5, 8), (6, 0), (6, 1), (6, 2), (6, 3), (6, 4), (6, 5), (6, 6)] rfl gw_X0_nearCut
set_option maxRecDepth 20000 in
theorem gX1_hang_X0_nearCut : GoodIn wsX1_hang (wsV RX1 50 RX0 yX0_nearCut wsX0_nearCut) := goodIn_app (gdp_In _ pcs_X1_hang pc_X1_hang [(3, 4), (3, 5), (3, 6), (1, 8)] rfl (gw_V _ _ _ _)) ggX1_hang_X0_nearCut
set_option maxRecDepth 20000 in
theorem ggX1_leastOnWay_X1_stepsToRoot : GoodIn wsX1_leastOnWay wsX1_stepsToRoot := goodIn_r _ [12, 7, 13, 14, 15] rfl gw_X1_stepsToRoot
set_option maxRecDepth 20000 in
theorem gX1_leastOnWay_X1_stepsToRoot : GoodIn wsX1_leastOnWay (wsV RX1 55 RX1 yX1_stepsToRoot wsX1_stepsToRoot) := goodIn_app (goodIn_r _ [8, 9, 10, 11] rfl (gw_V _ _ _ _)) ggX1_leastOnWay_X1_stepsToRoot
set_option maxRecDepth 20000 in
theorem ggX1_leastAlike_X1_leastOnWay : GoodIn wsX1_leastAlike wsX1_leastOnWay := goodIn_r _ [5, 6, 7, 8, 9, 10, 11, 12, 13, 14, 15, 4, 16, 17, 18, 19] rfl gw_X1_leastOnWay
set_option maxRecDepth 20000 in
theorem gX1_leastAlike_X1_leastOnWay : GoodIn wsX1_leastAlike (wsV RX1 63 RX1 yX1_leastOnWay wsX1_leastOnWay) := goodIn_app (goodIn_r _ [1, 2, 3, 4] rfl (gw_V _ _ _ _)) ggX1_leastAlike_X1_leastOnWay
set_option maxRecDepth 20000 in
theorem ggX1_partsBelow_X1_leastAlike : GoodIn wsX1_partsBelow wsX1_leastAlike := goodIn_r _ [5, 6, 7, 8, 4, 9, 10, 11, 12, 13, 14, 15, 16, 17, 18, 19, 20, 21, 22, 23] rfl gw_X1_leastAlike
set_option maxRecDepth 20000 in
theorem gX1_partsBelow_X1_leastAlike : GoodIn wsX1_partsBelow (wsV RX1 66 RX1 yX1_leastAlike wsX1_leastAlike) := goodIn_app (goodIn_r _ [1, 2, 3, 4] rfl (gw_V _ _ _ _)) ggX1_partsBelow_X1_leastAlike
set_option maxRecDepth 20000 in
theorem ggX2_init_X6_init : GoodIn wsX2_init wsX6_init := goodIn_r _ [3, 4, 5, 6] rfl gw_X6_init
set_option maxRecDepth 20000 in
theorem gX2_init_X6_init_n1 : GoodIn wsX2_init (wsX6_init) := ggX2_init_X6_init
set_option maxRecDepth 20000 in
theorem ggX3_hasPair_X3_hasPlace : GoodIn wsX3_hasPair wsX3_hasPlace := goodIn_r _ [5, 6, 7, 8, 9, 10, 11, 12, 13] rfl gw_X3_hasPlace
set_option maxRecDepth 20000 in
theorem gX3_hasPair_X3_hasPlace : GoodIn wsX3_hasPair (wsV RX3 34 RX3 yX3_hasPlace wsX3_hasPlace) := goodIn_app (goodIn_r _ [1, 2, 3, 4] rfl (gw_V _ _ _ _)) ggX3_hasPair_X3_hasPlace
set_option maxRecDepth 20000 in
theorem ggX3_missingLines_X3_isMissing : GoodIn wsX3_missingLines wsX3_isMissing := goodIn_r _ [6, 7, 8, 9, 10, 11, 12, 13, 14] rfl gw_X3_isMissing
set_option maxRecDepth 20000 in
theorem gX3_missingLines_X3_isMissing : GoodIn wsX3_missingLines (wsV RX3 38 RX3 yX3_isMissing wsX3_isMissing) := goodIn_app (goodIn_r _ [2, 3, 4, 5] rfl (gw_V _ _ _ _)) ggX3_missingLines_X3_isMissing
set_option maxRecDepth 20000 in
theorem ggX3_isWhole_X3_isMissing : GoodIn wsX3_isWhole wsX3_isMissing := goodIn_r _ [8, 9, 10, 11, 12, 13, 14, 15, 16] rfl gw_X3_isMissing
set_option maxRecDepth 20000 in
theorem gX3_isWhole_X3_isMissing : GoodIn wsX3_isWhole (wsV RX3 38 RX3 yX3_isMissing wsX3_isMissing) := goodIn_app (goodIn_r _ [4, 5, 6, 7] rfl (gw_V _ _ _ _)) ggX3_isWhole_X3_isMissing
set_option maxRecDepth 20000 in
theorem ggX3_join_X3_isMissing : GoodIn wsX3_join wsX3_isMissing := goodIn_r _ [9, 2, 13, 14, 15, 16, 17, 18, 19] rfl gw_X3_isMissing
set_option maxRecDepth 20000 in
theorem gX3_join_X3_isMissing : GoodIn wsX3_join (wsV RX3 38 RX3 yX3_isMissing wsX3_isMissing) := goodIn_app (goodIn_r _ [5, 6, 7, 8] rfl (gw_V _ _ _ _)) ggX3_join_X3_isMissing
set_option maxRecDepth 20000 in
theorem ggX3_join_X3_renumbered : GoodIn wsX3_join wsX3_renumbered := goodIn_r _ [12] rfl gw_X3_renumbered
set_option maxRecDepth 20000 in
theorem gX3_join_X3_renumbered : GoodIn wsX3_join (va_wsS RX3 42 yX3_renumbered wsX3_renumbered) := goodIn_app (goodIn_r _ [10, 11, 8] rfl (gw_S _ _ _)) ggX3_join_X3_renumbered
set_option maxRecDepth 20000 in
theorem ggX4_begin_J7_fill_53178 : GoodIn wsX4_begin wsJ7_fill_53178 := goodIn_r _ [7] rfl gw_J7_fill_53178
set_option maxRecDepth 20000 in
theorem gX4_begin_J7_fill_53178 : GoodIn wsX4_begin (va_wsS RX4 26 yJ7_fill_53178 wsJ7_fill_53178) := goodIn_app (goodIn_r _ [4, 5, 6] rfl (gw_S _ _ _)) ggX4_begin_J7_fill_53178
set_option maxRecDepth 20000 in
theorem ggX4_whole_X4_number : GoodIn wsX4_whole wsX4_number := goodIn_r _ [5, 6, 7, 8, 9, 10] rfl gw_X4_number
set_option maxRecDepth 20000 in
theorem gX4_whole_X4_number : GoodIn wsX4_whole (wsV RX4 32 RX4 yX4_number wsX4_number) := goodIn_app (goodIn_r _ [1, 2, 3, 4] rfl (gw_V _ _ _ _)) ggX4_whole_X4_number
set_option maxRecDepth 20000 in
theorem ggX4_moveRefusal_X4_isThere : GoodIn wsX4_moveRefusal wsX4_isThere := goodIn_r _ [6, 7, 16, 17, 18, 19] rfl gw_X4_isThere
set_option maxRecDepth 20000 in
theorem gX4_moveRefusal_X4_isThere : GoodIn wsX4_moveRefusal (wsV RX4 36 RX4 yX4_isThere wsX4_isThere) := goodIn_app (goodIn_r _ [2, 3, 4, 5] rfl (gw_V _ _ _ _)) ggX4_moveRefusal_X4_isThere
set_option maxRecDepth 20000 in
theorem ggX4_moveRefusal_X4_hasRow : GoodIn wsX4_moveRefusal wsX4_hasRow := goodIn_r _ [11, 7, 16, 17, 18, 19] rfl gw_X4_hasRow
set_option maxRecDepth 20000 in
theorem gX4_moveRefusal_X4_hasRow : GoodIn wsX4_moveRefusal (wsV RX4 40 RX4 yX4_hasRow wsX4_hasRow) := goodIn_app (goodIn_r _ [8, 9, 10, 5] rfl (gw_V _ _ _ _)) ggX4_moveRefusal_X4_hasRow
set_option maxRecDepth 20000 in
theorem ggX4_moveRefusal_X4_hasNumbers : GoodIn wsX4_moveRefusal wsX4_hasNumbers := goodIn_r _ [15, 1, 16, 17, 18, 19] rfl gw_X4_hasNumbers
set_option maxRecDepth 20000 in
theorem gX4_moveRefusal_X4_hasNumbers : GoodIn wsX4_moveRefusal (wsV RX4 44 RX4 yX4_hasNumbers wsX4_hasNumbers) := goodIn_app (goodIn_r _ [12, 13, 14, 5] rfl (gw_V _ _ _ _)) ggX4_moveRefusal_X4_hasNumbers
set_option maxRecDepth 20000 in
theorem ggX5_init_X6_init : GoodIn wsX5_init wsX6_init := goodIn_r _ [3, 4, 5, 6] rfl gw_X6_init
set_option maxRecDepth 20000 in
theorem gX5_init_X6_init_n1 : GoodIn wsX5_init (wsX6_init) := ggX5_init_X6_init
set_option maxRecDepth 20000 in
theorem ggX5_lets_X6_lets : GoodIn wsX5_lets wsX6_lets := goodIn_r _ [6] rfl gw_X6_lets
set_option maxRecDepth 20000 in
theorem gX5_lets_X6_lets_s7 : GoodIn wsX5_lets (va_wsSU RX5 7 yX6_lets wsX6_lets) := goodIn_app (goodIn_of _ (by decide +kernel)) ggX5_lets_X6_lets
set_option maxRecDepth 20000 in
theorem ggX5_letsMark_X6_letsMark : GoodIn wsX5_letsMark wsX6_letsMark := goodIn_r _ [6] rfl gw_X6_letsMark
set_option maxRecDepth 20000 in
theorem gX5_letsMark_X6_letsMark_s11 : GoodIn wsX5_letsMark (va_wsSU RX5 11 yX6_letsMark wsX6_letsMark) := goodIn_app (goodIn_of _ (by decide +kernel)) ggX5_letsMark_X6_letsMark
set_option maxRecDepth 20000 in
theorem ggX7_countCuts_X7_hunt : GoodIn wsX7_countCuts wsX7_hunt := gdp_In _ pcs_X7_countCuts pc_X7_countCuts [(1, 6), (1, 7), (1, 8), (1, 9), (1, 10), (1, 1), (1, 11), (1, 12), (1, 13), (1, 14), (1, 15), (1, 16), (1, 17), (1, 5), (1, 18), (1, 19), (1, 20), (1, 21), (1, 22), (1, 23), (2, 0), (2, 1), (2, 2), (2, 3), (2, 4), (2, 5), (2, 6), (2, 7), (3, 0), (3, 1), (3, 2), (3, 3), (3, 4), (3, 5), (3, 6), (3, 7), (3, 8), (4, 0), (4, 1), (4, 2), (4, 3), (4, 4), (4, 5), (4, 6), (4, 7), (4, 8), (5, 0), (5, 1), (5, 2), (5, 3), (5, 4), (5, 5), (5, 6)] rfl gw_X7_hunt
set_option maxRecDepth 20000 in
theorem gX7_countCuts_X7_hunt : GoodIn wsX7_countCuts (wsV RX7 16 RX7 yX7_hunt wsX7_hunt) := goodIn_app (gdp_In _ pcs_X7_countCuts pc_X7_countCuts [(1, 2), (1, 3), (1, 4), (1, 5)] rfl (gw_V _ _ _ _)) ggX7_countCuts_X7_hunt
set_option maxRecDepth 20000 in
theorem ggX7_findCut_X7_hunt : GoodIn wsX7_findCut wsX7_hunt := gdp_In _ pcs_X7_findCut pc_X7_findCut [(1, 5), (1, 6), (1, 7), (1, 8), (1, 9), (1, 10), (1, 0), (1, 11), (1, 12), (1, 13), (1, 14), (1, 15), (1, 16), (1, 4), (1, 17), (1, 18), (1, 19), (1, 20), (1, 21), (1, 22), (1, 23), (2, 0), (2, 1), (2, 2), (2, 3), (2, 4), (2, 5), (2, 6), (3, 0), (3, 1), (3, 2), (3, 3), (3, 4), (3, 5), (3, 6), (3, 7), (3, 8), (4, 0), (4, 1), (4, 2), (4, 3), (4, 4), (4, 5), (4, 6), (4, 7), (4, 8), (5, 0), (5, 1), (5, 2), (5, 3), (5, 4), (5, 5), (5, 6)] rfl gw_X7_hunt
set_option maxRecDepth 20000 in
theorem gX7_findCut_X7_hunt : GoodIn wsX7_findCut (wsV RX7 16 RX7 yX7_hunt wsX7_hunt) := goodIn_app (gdp_In _ pcs_X7_findCut pc_X7_findCut [(1, 1), (1, 2), (1, 3), (1, 4)] rfl (gw_V _ _ _ _)) ggX7_findCut_X7_hunt
set_option maxRecDepth 20000 in
theorem ggX7_hunt_X7_chooseForCut : GoodIn wsX7_hunt wsX7_chooseForCut := gdp_In _ pcs_X7_hunt pc_X7_hunt [(1, 13), (1, 2), (1, 5), (1, 0), (1, 1), (1, 14), (1, 15), (1, 16), (1, 12), (1, 17), (1, 4), (1, 3), (1, 18), (1, 19), (1, 20), (1, 21), (1, 6), (1, 7), (1, 8), (1, 22), (1, 9), (1, 10), (1, 11), (1, 23), (2, 0), (2, 1), (2, 2), (3, 0), (3, 1), (3, 2), (3, 3), (3, 4), (3, 5), (3, 6), (3, 7), (3, 8), (4, 0), (4, 1), (4, 2), (4, 3), (4, 4), (4, 5), (4, 6), (4, 7), (4, 8), (5, 0), (5, 1), (5, 2), (5, 3), (5, 4), (5, 5), (5, 6)] rfl gw_X7_chooseForCut
set_option maxRecDepth 20000 in
theorem gX7_hunt_X7_chooseForCut : GoodIn wsX7_hunt (wsV RX7 50 RX7 yX7_chooseForCut wsX7_chooseForCut) := goodIn_app (gdp_In _ pcs_X7_hunt pc_X7_hunt [(1, 9), (1, 10), (1, 11), (1, 12)] rfl (gw_V _ _ _ _)) ggX7_hunt_X7_chooseForCut
set_option maxRecDepth 20000 in
theorem ggX7_chooseForCut_X7_meet : GoodIn wsX7_chooseForCut wsX7_meet := gdp_In _ pcs_X7_chooseForCut pc_X7_chooseForCut [(1, 8), (1, 0), (1, 9), (1, 10), (1, 1), (3, 0), (3, 1), (3, 2), (3, 3), (3, 4), (3, 5), (3, 6), (3, 7), (3, 8)] rfl gw_X7_meet
set_option maxRecDepth 20000 in
theorem gX7_chooseForCut_X7_meet : GoodIn wsX7_chooseForCut (wsV RX7 54 RX7 yX7_meet wsX7_meet) := goodIn_app (gdp_In _ pcs_X7_chooseForCut pc_X7_chooseForCut [(1, 4), (1, 5), (1, 6), (1, 7)] rfl (gw_V _ _ _ _)) ggX7_chooseForCut_X7_meet
set_option maxRecDepth 20000 in
theorem ggX7_chooseForCut_X7_letIn : GoodIn wsX7_chooseForCut wsX7_letIn := gdp_In _ pcs_X7_chooseForCut pc_X7_chooseForCut [(1, 14), (1, 15), (1, 16), (1, 17), (1, 18), (3, 0), (3, 1), (3, 2), (3, 3), (3, 4), (3, 5), (3, 6), (3, 7), (3, 8), (4, 0), (4, 1), (4, 2), (4, 3), (4, 4), (4, 5), (4, 6), (4, 7), (4, 8), (5, 0), (5, 1), (5, 2), (5, 3), (5, 4), (5, 5), (5, 6)] rfl gw_X7_letIn
set_option maxRecDepth 20000 in
theorem gX7_chooseForCut_X7_letIn : GoodIn wsX7_chooseForCut (wsV RX7 58 RX7 yX7_letIn wsX7_letIn) := goodIn_app (gdp_In _ pcs_X7_chooseForCut pc_X7_chooseForCut [(1, 11), (1, 12), (1, 13), (1, 7)] rfl (gw_V _ _ _ _)) ggX7_chooseForCut_X7_letIn
set_option maxRecDepth 20000 in
theorem ggX7_chooseForCut_X7_chooseForCut : GoodIn wsX7_chooseForCut wsX7_chooseForCut := gdp_In _ pcs_X7_chooseForCut pc_X7_chooseForCut [(0, 0), (1, 0), (1, 1), (1, 2), (1, 3), (1, 4), (1, 5), (1, 6), (1, 7), (1, 8), (1, 9), (1, 10), (1, 11), (1, 12), (1, 13), (1, 14), (1, 15), (1, 16), (1, 17), (1, 18), (1, 19), (1, 20), (1, 21), (1, 22), (1, 23), (2, 0), (2, 1), (3, 0), (3, 1), (3, 2), (3, 3), (3, 4), (3, 5), (3, 6), (3, 7), (3, 8), (4, 0), (4, 1), (4, 2), (4, 3), (4, 4), (4, 5), (4, 6), (4, 7), (4, 8), (5, 0), (5, 1), (5, 2), (5, 3), (5, 4), (5, 5), (5, 6)] rfl gw_X7_chooseForCut
set_option maxRecDepth 20000 in
theorem gX7_chooseForCut_X7_chooseForCut : GoodIn wsX7_chooseForCut (wsV RX7 50 RX7 yX7_chooseForCut wsX7_chooseForCut) := goodIn_app (gdp_In _ pcs_X7_chooseForCut pc_X7_chooseForCut [(1, 19), (1, 20), (1, 21), (1, 7)] rfl (gw_V _ _ _ _)) ggX7_chooseForCut_X7_chooseForCut
set_option maxRecDepth 20000 in
theorem ggX7_chooseForCut_X7_letOut : GoodIn wsX7_chooseForCut wsX7_letOut := gdp_In _ pcs_X7_chooseForCut pc_X7_chooseForCut [(2, 1), (1, 15), (1, 16), (1, 17), (1, 18), (3, 0), (3, 1), (3, 2), (3, 3), (3, 4), (3, 5), (3, 6), (3, 7), (3, 8), (4, 0), (4, 1), (4, 2), (4, 3), (4, 4), (4, 5), (4, 6), (4, 7), (4, 8), (5, 0), (5, 1), (5, 2), (5, 3), (5, 4), (5, 5), (5, 6)] rfl gw_X7_letOut
set_option maxRecDepth 20000 in
theorem gX7_chooseForCut_X7_letOut : GoodIn wsX7_chooseForCut (wsV RX7 62 RX7 yX7_letOut wsX7_letOut) := goodIn_app (gdp_In _ pcs_X7_chooseForCut pc_X7_chooseForCut [(1, 22), (1, 23), (2, 0), (1, 7)] rfl (gw_V _ _ _ _)) ggX7_chooseForCut_X7_letOut
set_option maxRecDepth 20000 in
theorem ggX7_findDensest_X7_chooseForDense : GoodIn wsX7_findDensest wsX7_chooseForDense := gdp_In _ pcs_X7_findDensest pc_X7_findDensest [(1, 9), (1, 10), (1, 11), (1, 12), (1, 8), (1, 13), (1, 0), (1, 1), (1, 14), (1, 15), (1, 16), (1, 17), (1, 18), (1, 19), (1, 20), (1, 5), (1, 6), (1, 7), (1, 21), (1, 22), (1, 23), (2, 0), (1, 2), (1, 3), (1, 4), (2, 1), (3, 0), (3, 1), (3, 2), (3, 3), (3, 4), (3, 5), (3, 6), (3, 7), (3, 8), (4, 0), (4, 1), (4, 2), (4, 3), (4, 4), (4, 5), (4, 6), (4, 7), (4, 8), (5, 0), (5, 1), (5, 2), (5, 3), (5, 4), (5, 5), (5, 6)] rfl gw_X7_chooseForDense
set_option maxRecDepth 20000 in
theorem gX7_findDensest_X7_chooseForDense : GoodIn wsX7_findDensest (wsV RX7 75 RX7 yX7_chooseForDense wsX7_chooseForDense) := goodIn_app (gdp_In _ pcs_X7_findDensest pc_X7_findDensest [(1, 5), (1, 6), (1, 7), (1, 8)] rfl (gw_V _ _ _ _)) ggX7_findDensest_X7_chooseForDense
set_option maxRecDepth 20000 in
theorem ggX7_chooseForDense_X7_compareDense : GoodIn wsX7_chooseForDense wsX7_compareDense := gdp_In _ pcs_X7_chooseForDense pc_X7_chooseForDense [(1, 4), (1, 5), (1, 6), (1, 7), (1, 8), (1, 9), (1, 10), (1, 11), (1, 12), (1, 13), (3, 0), (3, 1), (3, 2), (3, 3), (3, 4), (3, 5), (3, 6), (3, 7), (3, 8)] rfl gw_X7_compareDense
set_option maxRecDepth 20000 in
theorem gX7_chooseForDense_X7_compareDense : GoodIn wsX7_chooseForDense (wsV RX7 78 RX7 yX7_compareDense wsX7_compareDense) := goodIn_app (gdp_In _ pcs_X7_chooseForDense pc_X7_chooseForDense [(1, 0), (1, 1), (1, 2), (1, 3)] rfl (gw_V _ _ _ _)) ggX7_chooseForDense_X7_compareDense
set_option maxRecDepth 20000 in
theorem ggX7_chooseForDense_X7_chooseForDense : GoodIn wsX7_chooseForDense wsX7_chooseForDense := gdp_In _ pcs_X7_chooseForDense pc_X7_chooseForDense [(0, 0), (1, 0), (1, 1), (1, 2), (1, 3), (1, 4), (1, 5), (1, 6), (1, 7), (1, 8), (1, 9), (1, 10), (1, 11), (1, 12), (1, 13), (1, 14), (1, 15), (1, 16), (1, 17), (1, 18), (1, 19), (1, 20), (1, 21), (1, 22), (1, 23), (2, 0), (3, 0), (3, 1), (3, 2), (3, 3), (3, 4), (3, 5), (3, 6), (3, 7), (3, 8), (4, 0), (4, 1), (4, 2), (4, 3), (4, 4), (4, 5), (4, 6), (4, 7), (4, 8), (5, 0), (5, 1), (5, 2), (5, 3), (5, 4), (5, 5), (5, 6)] rfl gw_X7_chooseForDense
set_option maxRecDepth 20000 in
theorem gX7_chooseForDense_X7_chooseForDense : GoodIn wsX7_chooseForDense (wsV RX7 75 RX7 yX7_chooseForDense wsX7_chooseForDense) := goodIn_app (gdp_In _ pcs_X7_chooseForDense pc_X7_chooseForDense [(1, 14), (1, 15), (1, 16), (1, 3)] rfl (gw_V _ _ _ _)) ggX7_chooseForDense_X7_chooseForDense
set_option maxRecDepth 20000 in
theorem ggX7_chooseForDense_X7_letIn : GoodIn wsX7_chooseForDense wsX7_letIn := gdp_In _ pcs_X7_chooseForDense pc_X7_chooseForDense [(1, 20), (1, 21), (1, 22), (1, 23), (2, 0), (3, 0), (3, 1), (3, 2), (3, 3), (3, 4), (3, 5), (3, 6), (3, 7), (3, 8), (4, 0), (4, 1), (4, 2), (4, 3), (4, 4), (4, 5), (4, 6), (4, 7), (4, 8), (5, 0), (5, 1), (5, 2), (5, 3), (5, 4), (5, 5), (5, 6)] rfl gw_X7_letIn
set_option maxRecDepth 20000 in
theorem gX7_chooseForDense_X7_letIn : GoodIn wsX7_chooseForDense (wsV RX7 58 RX7 yX7_letIn wsX7_letIn) := goodIn_app (gdp_In _ pcs_X7_chooseForDense pc_X7_chooseForDense [(1, 17), (1, 18), (1, 19), (1, 3)] rfl (gw_V _ _ _ _)) ggX7_chooseForDense_X7_letIn
set_option maxRecDepth 20000 in
theorem ggX7_compareDense_J6_bitCount_0f7a4 : GoodIn wsX7_compareDense wsJ6_bitCount_0f7a4 := goodIn_r _ [6, 7, 8, 9] rfl gw_J6_bitCount_0f7a4
set_option maxRecDepth 20000 in
theorem gX7_compareDense_J6_bitCount_0f7a4 : GoodIn wsX7_compareDense (va_wsS RX7 81 yJ6_bitCount_0f7a4 wsJ6_bitCount_0f7a4) := goodIn_app (goodIn_r _ [3, 4, 5] rfl (gw_S _ _ _)) ggX7_compareDense_J6_bitCount_0f7a4
set_option maxRecDepth 20000 in
theorem ggX8_init_X2_init : GoodIn wsX8_init wsX2_init := goodIn_r _ [3, 4, 5, 6, 7, 8, 9] rfl gw_X2_init
set_option maxRecDepth 20000 in
theorem gX8_init_X2_init_n1 : GoodIn wsX8_init (wsX2_init) := ggX8_init_X2_init
set_option maxRecDepth 20000 in
theorem ggX8_costs_X2_costs : GoodIn wsX8_costs wsX2_costs := goodIn_r _ [6] rfl gw_X2_costs
set_option maxRecDepth 20000 in
theorem gX8_costs_X2_costs_s7 : GoodIn wsX8_costs (va_wsSU RX8 7 yX2_costs wsX2_costs) := goodIn_app (goodIn_of _ (by decide +kernel)) ggX8_costs_X2_costs
set_option maxRecDepth 20000 in
theorem ggX8_costsMark_X2_costsMark : GoodIn wsX8_costsMark wsX2_costsMark := goodIn_r _ [7] rfl gw_X2_costsMark
set_option maxRecDepth 20000 in
theorem gX8_costsMark_X2_costsMark_s12 : GoodIn wsX8_costsMark (va_wsSU RX8 12 yX2_costsMark wsX2_costsMark) := goodIn_app (goodIn_of _ (by decide +kernel)) ggX8_costsMark_X2_costsMark
set_option maxRecDepth 20000 in
theorem ggX9_init_X6_init : GoodIn wsX9_init wsX6_init := goodIn_r _ [3, 4, 5, 6] rfl gw_X6_init
set_option maxRecDepth 20000 in
theorem gX9_init_X6_init_n3 : GoodIn wsX9_init (wsX6_init) := ggX9_init_X6_init
set_option maxRecDepth 20000 in
theorem ggX10_pay_X10_findPrices : GoodIn wsX10_pay wsX10_findPrices := gdp_In _ pcs_X10_pay pc_X10_pay [(1, 6), (1, 7), (1, 8), (1, 9), (1, 10), (1, 1), (1, 11), (1, 12), (1, 13), (1, 14), (1, 15), (1, 16), (1, 17), (1, 18), (1, 19), (1, 20), (1, 21), (1, 22), (1, 23), (2, 0), (2, 1), (2, 2), (2, 3), (2, 4), (2, 5), (2, 6), (2, 7), (2, 8), (2, 9), (2, 10), (2, 11), (2, 12), (2, 13), (2, 14), (2, 15), (2, 16), (2, 17), (2, 18), (2, 19), (2, 20), (2, 21), (2, 22), (2, 23), (3, 0), (3, 1), (3, 2), (3, 3), (5, 0), (5, 1), (5, 2), (5, 3), (5, 4), (6, 0), (6, 1), (6, 2), (6, 3), (6, 4), (6, 5), (6, 6), (6, 7), (6, 8), (7, 0), (7, 1), (7, 2), (7, 3), (7, 4), (7, 5), (7, 6)] rfl gw_X10_findPrices
set_option maxRecDepth 20000 in
theorem gX10_pay_X10_findPrices : GoodIn wsX10_pay (wsV RX10 31 RX10 yX10_findPrices wsX10_findPrices) := goodIn_app (gdp_In _ pcs_X10_pay pc_X10_pay [(1, 2), (1, 3), (1, 4), (1, 5)] rfl (gw_V _ _ _ _)) ggX10_pay_X10_findPrices
set_option maxRecDepth 20000 in
theorem ggX10_pay_X10_findCosts : GoodIn wsX10_pay wsX10_findCosts := gdp_In _ pcs_X10_pay pc_X10_pay [(3, 7), (1, 7), (1, 8), (1, 9), (1, 0), (1, 1), (1, 21), (1, 22), (1, 23), (2, 0), (3, 8), (3, 9), (3, 10), (1, 5), (3, 11), (3, 12), (3, 13), (3, 14), (3, 15), (3, 16), (3, 17), (1, 10), (5, 0), (5, 1), (5, 2), (5, 3), (5, 4), (6, 0), (6, 1), (6, 2), (6, 3), (6, 4), (6, 5), (6, 6), (6, 7), (6, 8), (7, 0), (7, 1), (7, 2), (7, 3), (7, 4), (7, 5), (7, 6)] rfl gw_X10_findCosts
set_option maxRecDepth 20000 in
theorem gX10_pay_X10_findCosts : GoodIn wsX10_pay (wsV RX10 34 RX10 yX10_findCosts wsX10_findCosts) := goodIn_app (gdp_In _ pcs_X10_pay pc_X10_pay [(3, 4), (3, 5), (3, 6), (1, 5)] rfl (gw_V _ _ _ _)) ggX10_pay_X10_findCosts
set_option maxRecDepth 20000 in
theorem ggX10_pay_X10_roomOfWay : GoodIn wsX10_pay wsX10_roomOfWay := gdp_In _ pcs_X10_pay pc_X10_pay [(3, 21), (3, 12), (1, 17), (1, 18), (1, 19), (1, 20), (3, 22), (3, 23), (4, 0), (1, 5), (4, 1), (1, 7), (3, 17), (1, 1), (5, 0), (5, 1), (5, 2), (5, 3), (5, 4), (6, 0), (6, 1), (6, 2), (6, 3), (6, 4), (6, 5), (6, 6), (6, 7), (6, 8)] rfl gw_X10_roomOfWay
set_option maxRecDepth 20000 in
theorem gX10_pay_X10_roomOfWay : GoodIn wsX10_pay (wsV RX10 39 RX10 yX10_roomOfWay wsX10_roomOfWay) := goodIn_app (gdp_In _ pcs_X10_pay pc_X10_pay [(3, 18), (3, 19), (3, 20), (1, 5)] rfl (gw_V _ _ _ _)) ggX10_pay_X10_roomOfWay
set_option maxRecDepth 20000 in
theorem ggX10_pay_X10_sendAlongWay : GoodIn wsX10_pay wsX10_sendAlongWay := gdp_In _ pcs_X10_pay pc_X10_pay [(4, 5), (1, 7), (3, 17), (3, 12), (5, 0), (5, 1), (5, 2), (5, 3), (5, 4), (6, 0), (6, 1), (6, 2), (6, 3), (6, 4), (6, 5), (6, 6), (6, 7), (6, 8)] rfl gw_X10_sendAlongWay
set_option maxRecDepth 20000 in
theorem gX10_pay_X10_sendAlongWay : GoodIn wsX10_pay (wsV RX10 43 RX10 yX10_sendAlongWay wsX10_sendAlongWay) := goodIn_app (gdp_In _ pcs_X10_pay pc_X10_pay [(4, 2), (4, 3), (4, 4), (1, 5)] rfl (gw_V _ _ _ _)) ggX10_pay_X10_sendAlongWay
set_option maxRecDepth 20000 in
theorem ggX10_findPrices_J7_fill_53178 : GoodIn wsX10_findPrices wsJ7_fill_53178 := gdp_In _ pcs_X10_findPrices pc_X10_findPrices [(1, 18)] rfl gw_J7_fill_53178
set_option maxRecDepth 20000 in
theorem gX10_findPrices_J7_fill_53178 : GoodIn wsX10_findPrices (va_wsS RX10 59 yJ7_fill_53178 wsJ7_fill_53178) := goodIn_app (gdp_In _ pcs_X10_findPrices pc_X10_findPrices [(1, 15), (1, 16), (1, 17)] rfl (gw_S _ _ _)) ggX10_findPrices_J7_fill_53178
set_option maxRecDepth 20000 in
theorem ggX10_findPrices_X2_costs : GoodIn wsX10_findPrices wsX2_costs := gdp_In _ pcs_X10_findPrices pc_X10_findPrices [(2, 1)] rfl gw_X2_costs
set_option maxRecDepth 20000 in
theorem gX10_findPrices_X2_costs_u72X2 : GoodIn wsX10_findPrices (va_wsO RX10 72 RX2 "CutAtlas$PlainKind" ⟨"CutAtlas$PlainKind", "costs", "(I)I"⟩ yX2_costs wsX2_costs) := goodIn_app (goodIn_of _ (by decide +kernel)) ggX10_findPrices_X2_costs
set_option maxRecDepth 20000 in
theorem ggX10_findPrices_X6_costs : GoodIn wsX10_findPrices wsX6_costs := gdp_In _ pcs_X10_findPrices pc_X10_findPrices [(2, 2)] rfl gw_X6_costs
set_option maxRecDepth 20000 in
theorem gX10_findPrices_X6_costs_u72X5 : GoodIn wsX10_findPrices (va_wsU RX10 72 RX5 "CutAtlas$PlainKind" ⟨"CutAtlas$PlainKind", "costs", "(I)I"⟩ yX6_costs wsX6_costs) := goodIn_app (goodIn_of _ (by decide +kernel)) ggX10_findPrices_X6_costs
set_option maxRecDepth 20000 in
theorem gX10_findPrices_X6_costs : GoodIn wsX10_findPrices (wsV RX10 72 RX6 yX6_costs wsX6_costs) := goodIn_app (gdp_In _ pcs_X10_findPrices pc_X10_findPrices [(2, 6), (2, 4), (2, 7), (2, 5)] rfl (gw_V _ _ _ _)) ggX10_findPrices_X6_costs
set_option maxRecDepth 20000 in
theorem ggX10_findPrices_X8_costs : GoodIn wsX10_findPrices wsX8_costs := gdp_In _ pcs_X10_findPrices pc_X10_findPrices [(2, 11), (2, 12), (2, 13), (2, 14), (1, 23), (2, 0), (2, 1)] rfl gw_X8_costs
set_option maxRecDepth 20000 in
theorem gX10_findPrices_X8_costs_u72X8 : GoodIn wsX10_findPrices (va_wsO RX10 72 RX8 "CutAtlas$PlainKind" ⟨"CutAtlas$PlainKind", "costs", "(I)I"⟩ yX8_costs wsX8_costs) := goodIn_app (goodIn_of _ (by decide +kernel)) ggX10_findPrices_X8_costs
set_option maxRecDepth 20000 in
theorem gX10_findPrices_X6_costs_u72X9 : GoodIn wsX10_findPrices (va_wsU RX10 72 RX9 "CutAtlas$PlainKind" ⟨"CutAtlas$PlainKind", "costs", "(I)I"⟩ yX6_costs wsX6_costs) := goodIn_app (goodIn_of _ (by decide +kernel)) ggX10_findPrices_X6_costs
set_option maxRecDepth 20000 in
theorem ggX10_findPrices_X3_isMissing : GoodIn wsX10_findPrices wsX3_isMissing := gdp_In _ pcs_X10_findPrices pc_X10_findPrices [(2, 20), (2, 21), (5, 0), (5, 1), (5, 2), (5, 3), (5, 4), (5, 5), (5, 6)] rfl gw_X3_isMissing
set_option maxRecDepth 20000 in
theorem gX10_findPrices_X3_isMissing : GoodIn wsX10_findPrices (wsV RX10 77 RX3 yX3_isMissing wsX3_isMissing) := goodIn_app (gdp_In _ pcs_X10_findPrices pc_X10_findPrices [(2, 16), (2, 17), (2, 18), (2, 19)] rfl (gw_V _ _ _ _)) ggX10_findPrices_X3_isMissing
set_option maxRecDepth 20000 in
theorem ggX10_findCosts_J7_fill_53178 : GoodIn wsX10_findCosts wsJ7_fill_53178 := goodIn_r _ [9] rfl gw_J7_fill_53178
set_option maxRecDepth 20000 in
theorem gX10_findCosts_J7_fill_53178 : GoodIn wsX10_findCosts (va_wsS RX10 59 yJ7_fill_53178 wsJ7_fill_53178) := goodIn_app (goodIn_r _ [6, 7, 8] rfl (gw_S _ _ _)) ggX10_findCosts_J7_fill_53178
set_option maxRecDepth 20000 in
theorem ggX10_findCosts_X10_lookFrom : GoodIn wsX10_findCosts wsX10_lookFrom := goodIn_r _ [14, 1, 2, 3, 5, 4, 15, 16, 17, 18, 13, 19, 20, 21, 22, 23, 24, 25, 26, 27, 28, 29, 30, 31, 32, 33, 34, 35, 36, 37, 38, 39, 40, 41, 42] rfl gw_X10_lookFrom
set_option maxRecDepth 20000 in
theorem gX10_findCosts_X10_lookFrom : GoodIn wsX10_findCosts (wsV RX10 93 RX10 yX10_lookFrom wsX10_lookFrom) := goodIn_app (goodIn_r _ [10, 11, 12, 13] rfl (gw_V _ _ _ _)) ggX10_findCosts_X10_lookFrom
set_option maxRecDepth 20000 in
theorem ggX10_lookFrom_X10_stepCosts : GoodIn wsX10_lookFrom wsX10_stepCosts := goodIn_r _ [11, 1, 12, 13, 14, 15, 16, 17, 18, 19, 20, 21, 22, 23, 24, 25, 26, 27] rfl gw_X10_stepCosts
set_option maxRecDepth 20000 in
theorem gX10_lookFrom_X10_stepCosts : GoodIn wsX10_lookFrom (wsV RX10 96 RX10 yX10_stepCosts wsX10_stepCosts) := goodIn_app (goodIn_r _ [7, 8, 9, 10] rfl (gw_V _ _ _ _)) ggX10_lookFrom_X10_stepCosts
set_option maxRecDepth 20000 in
theorem ggX10_roomOfWay_X10_stepRoom : GoodIn wsX10_roomOfWay wsX10_stepRoom := goodIn_r _ [10, 11, 12, 13, 14, 15, 16, 17, 18, 19, 20, 21, 22, 23, 24, 25, 26, 27] rfl gw_X10_stepRoom
set_option maxRecDepth 20000 in
theorem gX10_roomOfWay_X10_stepRoom : GoodIn wsX10_roomOfWay (wsV RX10 102 RX10 yX10_stepRoom wsX10_stepRoom) := goodIn_app (goodIn_r _ [6, 7, 8, 9] rfl (gw_V _ _ _ _)) ggX10_roomOfWay_X10_stepRoom
set_option maxRecDepth 20000 in
theorem ggX11_init_X6_init : GoodIn wsX11_init wsX6_init := gdp_In _ pcs_X11_init pc_X11_init [(3, 1), (3, 2), (1, 1), (1, 2)] rfl gw_X6_init
set_option maxRecDepth 20000 in
theorem gX11_init_X6_init_n9 : GoodIn wsX11_init (wsX6_init) := ggX11_init_X6_init
set_option maxRecDepth 20000 in
theorem ggX11_init_X5_init : GoodIn wsX11_init wsX5_init := gdp_In _ pcs_X11_init pc_X11_init [(3, 4), (3, 0), (1, 5), (3, 1), (3, 2), (1, 1), (1, 2)] rfl gw_X5_init
set_option maxRecDepth 20000 in
theorem gX11_init_X5_init_n12 : GoodIn wsX11_init (wsX5_init) := ggX11_init_X5_init
set_option maxRecDepth 20000 in
theorem ggX11_init_X9_init : GoodIn wsX11_init wsX9_init := gdp_In _ pcs_X11_init pc_X11_init [(3, 6), (3, 0), (1, 5), (3, 1), (3, 2), (1, 1), (1, 2)] rfl gw_X9_init
set_option maxRecDepth 20000 in
theorem gX11_init_X9_init_n15 : GoodIn wsX11_init (wsX9_init) := ggX11_init_X9_init
set_option maxRecDepth 20000 in
theorem ggX11_init_X2_init : GoodIn wsX11_init wsX2_init := gdp_In _ pcs_X11_init pc_X11_init [(3, 8), (3, 0), (1, 5), (3, 1), (3, 2), (1, 1), (1, 2)] rfl gw_X2_init
set_option maxRecDepth 20000 in
theorem gX11_init_X2_init_n18 : GoodIn wsX11_init (wsX2_init) := ggX11_init_X2_init
set_option maxRecDepth 20000 in
theorem ggX11_init_X8_init : GoodIn wsX11_init wsX8_init := gdp_In _ pcs_X11_init pc_X11_init [(3, 10), (3, 7), (1, 14), (3, 8), (3, 0), (1, 5), (3, 1), (3, 2), (1, 1), (1, 2)] rfl gw_X8_init
set_option maxRecDepth 20000 in
theorem gX11_init_X8_init_n21 : GoodIn wsX11_init (wsX8_init) := ggX11_init_X8_init
set_option maxRecDepth 20000 in
theorem ggX11_init_X3_init : GoodIn wsX11_init wsX3_init := gdp_In _ pcs_X11_init pc_X11_init [(3, 12), (3, 13), (1, 1), (1, 2), (3, 14), (3, 15), (3, 16), (3, 17), (3, 18), (3, 19), (3, 20), (3, 21), (12, 0), (12, 1), (12, 2), (12, 3), (12, 4), (12, 5), (12, 6)] rfl gw_X3_init
set_option maxRecDepth 20000 in
theorem gX11_init_X3_init_n30 : GoodIn wsX11_init (wsX3_init) := ggX11_init_X3_init
set_option maxRecDepth 20000 in
theorem ggX11_init_X0_init : GoodIn wsX11_init wsX0_init := gdp_In _ pcs_X11_init pc_X11_init [(4, 0), (4, 1), (1, 1), (1, 2), (4, 2), (3, 16), (4, 3), (4, 4), (4, 5), (4, 6), (4, 7), (4, 8), (4, 9), (4, 10), (4, 11), (13, 0), (13, 1), (13, 2), (13, 3), (13, 4), (13, 5), (13, 6), (13, 7), (13, 8)] rfl gw_X0_init
set_option maxRecDepth 20000 in
theorem gX11_init_X0_init : GoodIn wsX11_init (wsX0_init) := ggX11_init_X0_init
set_option maxRecDepth 20000 in
theorem ggX11_init_X7_init : GoodIn wsX11_init wsX7_init := gdp_In _ pcs_X11_init pc_X11_init [(4, 14), (4, 15), (1, 1), (1, 2), (4, 16), (14, 0), (14, 1), (14, 2), (14, 3), (14, 4), (14, 5), (14, 6), (14, 7), (14, 8)] rfl gw_X7_init
set_option maxRecDepth 20000 in
theorem gX11_init_X7_init : GoodIn wsX11_init (wsX7_init) := ggX11_init_X7_init
set_option maxRecDepth 20000 in
theorem ggX11_init_X1_init : GoodIn wsX11_init wsX1_init := gdp_In _ pcs_X11_init pc_X11_init [(4, 19), (4, 20), (1, 1), (1, 2), (3, 16), (4, 21), (4, 22), (4, 23), (15, 0), (15, 1), (15, 2)] rfl gw_X1_init
set_option maxRecDepth 20000 in
theorem gX11_init_X1_init : GoodIn wsX11_init (wsX1_init) := ggX11_init_X1_init
set_option maxRecDepth 20000 in
theorem ggX11_init_X10_init : GoodIn wsX11_init wsX10_init := gdp_In _ pcs_X11_init pc_X11_init [(5, 2), (5, 3), (1, 1), (1, 2), (5, 4), (3, 16), (5, 5), (5, 6), (5, 7), (5, 8), (5, 9), (16, 0), (16, 1), (16, 2), (16, 3), (16, 4)] rfl gw_X10_init
set_option maxRecDepth 20000 in
theorem gX11_init_X10_init : GoodIn wsX11_init (wsX10_init) := ggX11_init_X10_init
set_option maxRecDepth 20000 in
theorem ggX11_init_X4_init : GoodIn wsX11_init wsX4_init := gdp_In _ pcs_X11_init pc_X11_init [(5, 11), (5, 12), (1, 1), (1, 2), (5, 13), (5, 14), (3, 16), (5, 15), (5, 16), (5, 17), (17, 0), (17, 1), (17, 2), (17, 3)] rfl gw_X4_init
set_option maxRecDepth 20000 in
theorem gX11_init_X4_init_n71 : GoodIn wsX11_init (wsX4_init) := ggX11_init_X4_init
set_option maxRecDepth 20000 in
theorem ggX11_place_X11_remember : GoodIn wsX11_place wsX11_remember := gdp_In _ pcs_X11_place pc_X11_place [(1, 6), (1, 7), (1, 8), (1, 9), (1, 10), (1, 11), (1, 12), (1, 0), (1, 13), (1, 14), (1, 15), (1, 16), (1, 17), (1, 18), (1, 19), (1, 20), (1, 21), (1, 22), (1, 23), (2, 0), (2, 1), (2, 2), (2, 3), (2, 4), (2, 5), (2, 6), (2, 7), (2, 8), (2, 9), (3, 0), (3, 1), (3, 2), (3, 3), (3, 4), (3, 5), (3, 6), (3, 7), (3, 8), (3, 9), (3, 10), (3, 11), (4, 0), (4, 1), (4, 2), (4, 3), (4, 4), (4, 5), (4, 6)] rfl gw_X11_remember
set_option maxRecDepth 20000 in
theorem gX11_place_X11_remember : GoodIn wsX11_place (wsV RX11 97 RX11 yX11_remember wsX11_remember) := goodIn_app (gdp_In _ pcs_X11_place pc_X11_place [(1, 2), (1, 3), (1, 4), (1, 5)] rfl (gw_V _ _ _ _)) ggX11_place_X11_remember
set_option maxRecDepth 20000 in
theorem ggX11_line_X11_lineRefusal : GoodIn wsX11_line wsX11_lineRefusal := gdp_In _ pcs_X11_line pc_X11_line [(1, 6), (1, 7), (1, 8), (1, 9), (1, 10), (1, 11), (1, 12), (1, 13), (1, 14), (1, 15), (1, 16), (1, 17), (1, 18), (1, 19), (1, 20), (1, 21), (5, 0), (5, 1), (5, 2), (5, 3), (5, 4), (5, 5), (5, 6), (5, 7), (5, 8), (5, 9), (5, 10), (5, 11), (6, 0), (6, 1), (6, 2), (6, 3), (6, 4), (6, 5), (6, 6)] rfl gw_X11_lineRefusal
set_option maxRecDepth 20000 in
theorem gX11_line_X11_lineRefusal : GoodIn wsX11_line (wsV RX11 100 RX11 yX11_lineRefusal wsX11_lineRefusal) := goodIn_app (gdp_In _ pcs_X11_line pc_X11_line [(1, 2), (1, 3), (1, 4), (1, 5)] rfl (gw_V _ _ _ _)) ggX11_line_X11_lineRefusal
end

section
set_option maxRecDepth 20000 in
theorem ggX11_line_X11_remember : GoodIn wsX11_line wsX11_remember := gdp_In _ pcs_X11_line pc_X11_line [(2, 1), (2, 2), (2, 3), (2, 4), (2, 5), (2, 6), (1, 15), (1, 8), (2, 7), (2, 8), (2, 9), (2, 10), (2, 11), (1, 21), (2, 12), (2, 13), (2, 14), (2, 15), (2, 16), (2, 17), (2, 18), (2, 19), (2, 20), (2, 21), (2, 22), (2, 23), (3, 0), (3, 1), (3, 2), (5, 0), (5, 1), (5, 2), (5, 3), (5, 4), (5, 5), (5, 6), (5, 7), (5, 8), (5, 9), (5, 10), (5, 11), (6, 0), (6, 1), (6, 2), (6, 3), (6, 4), (6, 5), (6, 6)] rfl gw_X11_remember
set_option maxRecDepth 20000 in
theorem gX11_line_X11_remember : GoodIn wsX11_line (wsV RX11 97 RX11 yX11_remember wsX11_remember) := goodIn_app (gdp_In _ pcs_X11_line pc_X11_line [(1, 22), (1, 23), (2, 0), (1, 5)] rfl (gw_V _ _ _ _)) ggX11_line_X11_remember
set_option maxRecDepth 20000 in
theorem ggX11_line_X6_beginsMark : GoodIn wsX11_line wsX6_beginsMark := gdp_In _ pcs_X11_line pc_X11_line [(3, 8)] rfl gw_X6_beginsMark
set_option maxRecDepth 20000 in
theorem gX11_line_X6_beginsMark_u104X2 : GoodIn wsX11_line (va_wsU RX11 104 RX2 "CutAtlas$PlainKind" ⟨"CutAtlas$PlainKind", "beginsMark", "()I"⟩ yX6_beginsMark wsX6_beginsMark) := goodIn_app (goodIn_of _ (by decide +kernel)) ggX11_line_X6_beginsMark
set_option maxRecDepth 20000 in
theorem gX11_line_X6_beginsMark_u104X5 : GoodIn wsX11_line (va_wsU RX11 104 RX5 "CutAtlas$PlainKind" ⟨"CutAtlas$PlainKind", "beginsMark", "()I"⟩ yX6_beginsMark wsX6_beginsMark) := goodIn_app (goodIn_of _ (by decide +kernel)) ggX11_line_X6_beginsMark
set_option maxRecDepth 20000 in
theorem gX11_line_X6_beginsMark : GoodIn wsX11_line (wsV RX11 104 RX6 yX6_beginsMark wsX6_beginsMark) := goodIn_app (gdp_In _ pcs_X11_line pc_X11_line [(3, 10), (3, 6), (3, 11), (3, 7)] rfl (gw_V _ _ _ _)) ggX11_line_X6_beginsMark
set_option maxRecDepth 20000 in
theorem ggX11_line_X8_beginsMark : GoodIn wsX11_line wsX8_beginsMark := gdp_In _ pcs_X11_line pc_X11_line [(3, 16), (3, 17)] rfl gw_X8_beginsMark
set_option maxRecDepth 20000 in
theorem gX11_line_X8_beginsMark_u104X8 : GoodIn wsX11_line (va_wsO RX11 104 RX8 "CutAtlas$PlainKind" ⟨"CutAtlas$PlainKind", "beginsMark", "()I"⟩ yX8_beginsMark wsX8_beginsMark) := goodIn_app (goodIn_of _ (by decide +kernel)) ggX11_line_X8_beginsMark
set_option maxRecDepth 20000 in
theorem gX11_line_X6_beginsMark_u104X9 : GoodIn wsX11_line (va_wsU RX11 104 RX9 "CutAtlas$PlainKind" ⟨"CutAtlas$PlainKind", "beginsMark", "()I"⟩ yX6_beginsMark wsX6_beginsMark) := goodIn_app (goodIn_of _ (by decide +kernel)) ggX11_line_X6_beginsMark
set_option maxRecDepth 20000 in
theorem ggX11_line_X11_addLine : GoodIn wsX11_line wsX11_addLine := gdp_In _ pcs_X11_line pc_X11_line [(3, 22), (1, 8), (1, 1), (3, 23), (4, 0), (4, 1), (4, 2), (3, 7), (4, 3), (4, 4), (4, 5), (4, 6), (4, 7), (4, 8), (4, 9), (3, 15), (4, 10), (4, 11), (4, 12), (4, 13), (4, 14), (1, 15), (4, 15), (2, 14), (2, 12), (2, 15), (2, 16), (2, 17), (2, 18), (5, 0), (5, 1), (5, 2), (5, 3), (5, 4), (5, 5), (5, 6), (5, 7), (5, 8), (5, 9), (5, 10), (5, 11), (6, 0), (6, 1), (6, 2), (6, 3), (6, 4), (6, 5), (6, 6)] rfl gw_X11_addLine
set_option maxRecDepth 20000 in
theorem gX11_line_X11_addLine : GoodIn wsX11_line (wsV RX11 108 RX11 yX11_addLine wsX11_addLine) := goodIn_app (gdp_In _ pcs_X11_line pc_X11_line [(3, 19), (3, 20), (3, 21), (1, 5)] rfl (gw_V _ _ _ _)) ggX11_line_X11_addLine
set_option maxRecDepth 20000 in
theorem ggX11_widen_X3_hasLine : GoodIn wsX11_widen wsX3_hasLine := gdp_In _ pcs_X11_widen pc_X11_widen [(1, 10), (1, 11), (6, 0), (6, 1), (6, 2), (6, 3), (6, 4), (6, 5), (6, 6)] rfl gw_X3_hasLine
set_option maxRecDepth 20000 in
theorem gX11_widen_X3_hasLine : GoodIn wsX11_widen (wsV RX11 112 RX3 yX3_hasLine wsX3_hasLine) := goodIn_app (gdp_In _ pcs_X11_widen pc_X11_widen [(1, 6), (1, 7), (1, 8), (1, 9)] rfl (gw_V _ _ _ _)) ggX11_widen_X3_hasLine
set_option maxRecDepth 20000 in
theorem ggX11_widen_X2_costs : GoodIn wsX11_widen wsX2_costs := gdp_In _ pcs_X11_widen pc_X11_widen [(1, 18)] rfl gw_X2_costs
set_option maxRecDepth 20000 in
theorem gX11_widen_X2_costs_u122X2 : GoodIn wsX11_widen (va_wsO RX11 122 RX2 "CutAtlas$PlainKind" ⟨"CutAtlas$PlainKind", "costs", "(I)I"⟩ yX2_costs wsX2_costs) := goodIn_app (goodIn_of _ (by decide +kernel)) ggX11_widen_X2_costs
set_option maxRecDepth 20000 in
theorem ggX11_widen_X6_costs : GoodIn wsX11_widen wsX6_costs := gdp_In _ pcs_X11_widen pc_X11_widen [(1, 19)] rfl gw_X6_costs
set_option maxRecDepth 20000 in
theorem gX11_widen_X6_costs_u122X5 : GoodIn wsX11_widen (va_wsU RX11 122 RX5 "CutAtlas$PlainKind" ⟨"CutAtlas$PlainKind", "costs", "(I)I"⟩ yX6_costs wsX6_costs) := goodIn_app (goodIn_of _ (by decide +kernel)) ggX11_widen_X6_costs
set_option maxRecDepth 20000 in
theorem gX11_widen_X6_costs : GoodIn wsX11_widen (wsV RX11 122 RX6 yX6_costs wsX6_costs) := goodIn_app (gdp_In _ pcs_X11_widen pc_X11_widen [(1, 23), (1, 21), (2, 0), (1, 22)] rfl (gw_V _ _ _ _)) ggX11_widen_X6_costs
set_option maxRecDepth 20000 in
theorem ggX11_widen_X8_costs : GoodIn wsX11_widen wsX8_costs := gdp_In _ pcs_X11_widen pc_X11_widen [(2, 4), (2, 5), (2, 6), (2, 7), (1, 16), (1, 17), (1, 18)] rfl gw_X8_costs
set_option maxRecDepth 20000 in
theorem gX11_widen_X8_costs_u122X8 : GoodIn wsX11_widen (va_wsO RX11 122 RX8 "CutAtlas$PlainKind" ⟨"CutAtlas$PlainKind", "costs", "(I)I"⟩ yX8_costs wsX8_costs) := goodIn_app (goodIn_of _ (by decide +kernel)) ggX11_widen_X8_costs
set_option maxRecDepth 20000 in
theorem gX11_widen_X6_costs_u122X9 : GoodIn wsX11_widen (va_wsU RX11 122 RX9 "CutAtlas$PlainKind" ⟨"CutAtlas$PlainKind", "costs", "(I)I"⟩ yX6_costs wsX6_costs) := goodIn_app (goodIn_of _ (by decide +kernel)) ggX11_widen_X6_costs
set_option maxRecDepth 20000 in
theorem ggX11_widen_X3_isMissing : GoodIn wsX11_widen wsX3_isMissing := gdp_In _ pcs_X11_widen pc_X11_widen [(2, 12), (2, 13), (6, 0), (6, 1), (6, 2), (6, 3), (6, 4), (6, 5), (6, 6)] rfl gw_X3_isMissing
set_option maxRecDepth 20000 in
theorem gX11_widen_X3_isMissing : GoodIn wsX11_widen (wsV RX11 126 RX3 yX3_isMissing wsX3_isMissing) := goodIn_app (gdp_In _ pcs_X11_widen pc_X11_widen [(2, 9), (2, 10), (2, 11), (1, 9)] rfl (gw_V _ _ _ _)) ggX11_widen_X3_isMissing
set_option maxRecDepth 20000 in
theorem ggX11_widen_X11_remember : GoodIn wsX11_widen wsX11_remember := gdp_In _ pcs_X11_widen pc_X11_widen [(2, 18), (2, 19), (2, 20), (2, 21), (2, 22), (2, 23), (1, 9), (1, 0), (3, 0), (3, 1), (3, 2), (3, 3), (3, 4), (3, 5), (1, 11), (3, 6), (3, 7), (2, 13), (3, 8), (3, 9), (3, 10), (3, 11), (3, 12), (3, 13), (3, 14), (3, 15), (3, 16), (3, 17), (3, 18), (5, 0), (5, 1), (5, 2), (5, 3), (5, 4), (5, 5), (5, 6), (5, 7), (5, 8), (5, 9), (5, 10), (5, 11), (6, 0), (6, 1), (6, 2), (6, 3), (6, 4), (6, 5), (6, 6)] rfl gw_X11_remember
set_option maxRecDepth 20000 in
theorem gX11_widen_X11_remember : GoodIn wsX11_widen (wsV RX11 97 RX11 yX11_remember wsX11_remember) := goodIn_app (gdp_In _ pcs_X11_widen pc_X11_widen [(2, 14), (2, 15), (2, 16), (2, 17)] rfl (gw_V _ _ _ _)) ggX11_widen_X11_remember
set_option maxRecDepth 20000 in
theorem ggX11_widen_X2_costsMark : GoodIn wsX11_widen wsX2_costsMark := gdp_In _ pcs_X11_widen pc_X11_widen [(4, 0)] rfl gw_X2_costsMark
set_option maxRecDepth 20000 in
theorem gX11_widen_X2_costsMark_u132X2 : GoodIn wsX11_widen (va_wsO RX11 132 RX2 "CutAtlas$PlainKind" ⟨"CutAtlas$PlainKind", "costsMark", "()I"⟩ yX2_costsMark wsX2_costsMark) := goodIn_app (goodIn_of _ (by decide +kernel)) ggX11_widen_X2_costsMark
set_option maxRecDepth 20000 in
theorem ggX11_widen_X6_costsMark : GoodIn wsX11_widen wsX6_costsMark := gdp_In _ pcs_X11_widen pc_X11_widen [(4, 1)] rfl gw_X6_costsMark
set_option maxRecDepth 20000 in
theorem gX11_widen_X6_costsMark_u132X5 : GoodIn wsX11_widen (va_wsU RX11 132 RX5 "CutAtlas$PlainKind" ⟨"CutAtlas$PlainKind", "costsMark", "()I"⟩ yX6_costsMark wsX6_costsMark) := goodIn_app (goodIn_of _ (by decide +kernel)) ggX11_widen_X6_costsMark
set_option maxRecDepth 20000 in
theorem gX11_widen_X6_costsMark : GoodIn wsX11_widen (wsV RX11 132 RX6 yX6_costsMark wsX6_costsMark) := goodIn_app (gdp_In _ pcs_X11_widen pc_X11_widen [(4, 4), (4, 3), (4, 5), (1, 22)] rfl (gw_V _ _ _ _)) ggX11_widen_X6_costsMark
set_option maxRecDepth 20000 in
theorem ggX11_widen_X8_costsMark : GoodIn wsX11_widen wsX8_costsMark := gdp_In _ pcs_X11_widen pc_X11_widen [(4, 8), (4, 9), (4, 10), (4, 11), (2, 7), (3, 23), (1, 17), (4, 0)] rfl gw_X8_costsMark
set_option maxRecDepth 20000 in
theorem gX11_widen_X8_costsMark_u132X8 : GoodIn wsX11_widen (va_wsO RX11 132 RX8 "CutAtlas$PlainKind" ⟨"CutAtlas$PlainKind", "costsMark", "()I"⟩ yX8_costsMark wsX8_costsMark) := goodIn_app (goodIn_of _ (by decide +kernel)) ggX11_widen_X8_costsMark
set_option maxRecDepth 20000 in
theorem gX11_widen_X6_costsMark_u132X9 : GoodIn wsX11_widen (va_wsU RX11 132 RX9 "CutAtlas$PlainKind" ⟨"CutAtlas$PlainKind", "costsMark", "()I"⟩ yX6_costsMark wsX6_costsMark) := goodIn_app (goodIn_of _ (by decide +kernel)) ggX11_widen_X6_costsMark
set_option maxRecDepth 20000 in
theorem ggX11_width_X3_hasLine : GoodIn wsX11_width wsX3_hasLine := gdp_In _ pcs_X11_width pc_X11_width [(1, 6), (1, 7), (4, 0), (4, 1), (4, 2), (4, 3), (4, 4), (4, 5), (4, 6)] rfl gw_X3_hasLine
set_option maxRecDepth 20000 in
theorem gX11_width_X3_hasLine : GoodIn wsX11_width (wsV RX11 112 RX3 yX3_hasLine wsX3_hasLine) := goodIn_app (gdp_In _ pcs_X11_width pc_X11_width [(1, 2), (1, 3), (1, 4), (1, 5)] rfl (gw_V _ _ _ _)) ggX11_width_X3_hasLine
set_option maxRecDepth 20000 in
theorem ggX11_width_X3_isMissing : GoodIn wsX11_width wsX3_isMissing := gdp_In _ pcs_X11_width pc_X11_width [(1, 11), (1, 12), (4, 0), (4, 1), (4, 2), (4, 3), (4, 4), (4, 5), (4, 6)] rfl gw_X3_isMissing
set_option maxRecDepth 20000 in
theorem gX11_width_X3_isMissing : GoodIn wsX11_width (wsV RX11 126 RX3 yX3_isMissing wsX3_isMissing) := goodIn_app (gdp_In _ pcs_X11_width pc_X11_width [(1, 8), (1, 9), (1, 10), (1, 5)] rfl (gw_V _ _ _ _)) ggX11_width_X3_isMissing
set_option maxRecDepth 20000 in
theorem ggX11_width_X11_remember : GoodIn wsX11_width wsX11_remember := gdp_In _ pcs_X11_width pc_X11_width [(1, 17), (1, 18), (1, 19), (1, 20), (1, 21), (1, 22), (1, 5), (1, 0), (1, 23), (2, 0), (2, 1), (2, 2), (2, 3), (2, 4), (1, 7), (2, 5), (2, 6), (1, 12), (2, 7), (2, 8), (2, 9), (2, 10), (2, 11), (2, 12), (2, 13), (2, 14), (2, 15), (2, 16), (2, 17), (3, 0), (3, 1), (3, 2), (3, 3), (3, 4), (3, 5), (3, 6), (3, 7), (3, 8), (3, 9), (3, 10), (3, 11), (4, 0), (4, 1), (4, 2), (4, 3), (4, 4), (4, 5), (4, 6)] rfl gw_X11_remember
set_option maxRecDepth 20000 in
theorem gX11_width_X11_remember : GoodIn wsX11_width (wsV RX11 97 RX11 yX11_remember wsX11_remember) := goodIn_app (gdp_In _ pcs_X11_width pc_X11_width [(1, 13), (1, 14), (1, 15), (1, 16)] rfl (gw_V _ _ _ _)) ggX11_width_X11_remember
set_option maxRecDepth 20000 in
theorem ggX11_merge_X3_hasPair : GoodIn wsX11_merge wsX3_hasPair := gdp_In _ pcs_X11_merge pc_X11_merge [(1, 12), (1, 13), (1, 14), (1, 15), (1, 11), (1, 16), (1, 17), (5, 0), (5, 1), (5, 2), (5, 3), (5, 4), (5, 5), (5, 6)] rfl gw_X3_hasPair
set_option maxRecDepth 20000 in
theorem gX11_merge_X3_hasPair : GoodIn wsX11_merge (wsV RX11 135 RX3 yX3_hasPair wsX3_hasPair) := goodIn_app (gdp_In _ pcs_X11_merge pc_X11_merge [(1, 8), (1, 9), (1, 10), (1, 11)] rfl (gw_V _ _ _ _)) ggX11_merge_X3_hasPair
set_option maxRecDepth 20000 in
theorem ggX11_merge_X11_remember : GoodIn wsX11_merge wsX11_remember := gdp_In _ pcs_X11_merge pc_X11_merge [(1, 22), (1, 23), (2, 0), (2, 1), (2, 2), (2, 3), (1, 11), (1, 0), (2, 4), (2, 5), (2, 6), (2, 7), (2, 8), (1, 17), (2, 9), (2, 10), (2, 11), (2, 12), (2, 13), (2, 14), (2, 15), (2, 16), (2, 17), (2, 18), (2, 19), (2, 20), (2, 21), (2, 22), (2, 23), (4, 0), (4, 1), (4, 2), (4, 3), (4, 4), (4, 5), (4, 6), (4, 7), (4, 8), (4, 9), (4, 10), (4, 11), (5, 0), (5, 1), (5, 2), (5, 3), (5, 4), (5, 5), (5, 6)] rfl gw_X11_remember
set_option maxRecDepth 20000 in
theorem gX11_merge_X11_remember : GoodIn wsX11_merge (wsV RX11 97 RX11 yX11_remember wsX11_remember) := goodIn_app (gdp_In _ pcs_X11_merge pc_X11_merge [(1, 18), (1, 19), (1, 20), (1, 21)] rfl (gw_V _ _ _ _)) ggX11_merge_X11_remember
set_option maxRecDepth 20000 in
theorem ggX11_merge_X3_join : GoodIn wsX11_merge wsX3_join := gdp_In _ pcs_X11_merge pc_X11_merge [(3, 3), (2, 9), (2, 12), (2, 13), (1, 17), (3, 4), (3, 5), (3, 6), (1, 11), (3, 7), (3, 8), (3, 9), (3, 10), (5, 0), (5, 1), (5, 2), (5, 3), (5, 4), (5, 5), (5, 6)] rfl gw_X3_join
set_option maxRecDepth 20000 in
theorem gX11_merge_X3_join : GoodIn wsX11_merge (wsV RX11 148 RX3 yX3_join wsX3_join) := goodIn_app (gdp_In _ pcs_X11_merge pc_X11_merge [(3, 0), (3, 1), (3, 2), (1, 11)] rfl (gw_V _ _ _ _)) ggX11_merge_X3_join
set_option maxRecDepth 20000 in
theorem ggX11_undo_X3_become : GoodIn wsX11_undo wsX3_become := goodIn_r _ [9, 10, 11, 12, 13, 14, 15, 16, 17, 18, 19, 20, 33, 34, 35, 36, 37, 38, 39] rfl gw_X3_become
set_option maxRecDepth 20000 in
theorem gX11_undo_X3_become : GoodIn wsX11_undo (wsV RX11 151 RX3 yX3_become wsX3_become) := goodIn_app (goodIn_r _ [5, 6, 7, 8] rfl (gw_V _ _ _ _)) ggX11_undo_X3_become
set_option maxRecDepth 20000 in
theorem ggX11_told_X3_hasLine : GoodIn wsX11_told wsX3_hasLine := goodIn_r _ [11, 12, 30, 31, 32, 33, 34, 35, 36] rfl gw_X3_hasLine
set_option maxRecDepth 20000 in
theorem gX11_told_X3_hasLine : GoodIn wsX11_told (wsV RX11 112 RX3 yX3_hasLine wsX3_hasLine) := goodIn_app (goodIn_r _ [7, 8, 9, 10] rfl (gw_V _ _ _ _)) ggX11_told_X3_hasLine
set_option maxRecDepth 20000 in
theorem ggX11_told_X3_isMissing : GoodIn wsX11_told wsX3_isMissing := goodIn_r _ [16, 17, 30, 31, 32, 33, 34, 35, 36] rfl gw_X3_isMissing
set_option maxRecDepth 20000 in
theorem gX11_told_X3_isMissing : GoodIn wsX11_told (wsV RX11 126 RX3 yX3_isMissing wsX3_isMissing) := goodIn_app (goodIn_r _ [13, 14, 15, 10] rfl (gw_V _ _ _ _)) ggX11_told_X3_isMissing
set_option maxRecDepth 20000 in
theorem ggX11_ask_X3_hasLine : GoodIn wsX11_ask wsX3_hasLine := gdp_In _ pcs_X11_ask pc_X11_ask [(1, 10), (1, 11), (6, 0), (6, 1), (6, 2), (6, 3), (6, 4), (6, 5), (6, 6)] rfl gw_X3_hasLine
set_option maxRecDepth 20000 in
theorem gX11_ask_X3_hasLine : GoodIn wsX11_ask (wsV RX11 112 RX3 yX3_hasLine wsX3_hasLine) := goodIn_app (gdp_In _ pcs_X11_ask pc_X11_ask [(1, 6), (1, 7), (1, 8), (1, 9)] rfl (gw_V _ _ _ _)) ggX11_ask_X3_hasLine
set_option maxRecDepth 20000 in
theorem ggX11_ask_X2_costsMark : GoodIn wsX11_ask wsX2_costsMark := gdp_In _ pcs_X11_ask pc_X11_ask [(1, 18)] rfl gw_X2_costsMark
set_option maxRecDepth 20000 in
theorem gX11_ask_X2_costsMark_u132X2 : GoodIn wsX11_ask (va_wsO RX11 132 RX2 "CutAtlas$PlainKind" ⟨"CutAtlas$PlainKind", "costsMark", "()I"⟩ yX2_costsMark wsX2_costsMark) := goodIn_app (goodIn_of _ (by decide +kernel)) ggX11_ask_X2_costsMark
set_option maxRecDepth 20000 in
theorem ggX11_ask_X6_costsMark : GoodIn wsX11_ask wsX6_costsMark := gdp_In _ pcs_X11_ask pc_X11_ask [(1, 19)] rfl gw_X6_costsMark
set_option maxRecDepth 20000 in
theorem gX11_ask_X6_costsMark_u132X5 : GoodIn wsX11_ask (va_wsU RX11 132 RX5 "CutAtlas$PlainKind" ⟨"CutAtlas$PlainKind", "costsMark", "()I"⟩ yX6_costsMark wsX6_costsMark) := goodIn_app (goodIn_of _ (by decide +kernel)) ggX11_ask_X6_costsMark
set_option maxRecDepth 20000 in
theorem gX11_ask_X6_costsMark : GoodIn wsX11_ask (wsV RX11 132 RX6 yX6_costsMark wsX6_costsMark) := goodIn_app (gdp_In _ pcs_X11_ask pc_X11_ask [(1, 23), (1, 21), (2, 0), (1, 22)] rfl (gw_V _ _ _ _)) ggX11_ask_X6_costsMark
set_option maxRecDepth 20000 in
theorem ggX11_ask_X8_costsMark : GoodIn wsX11_ask wsX8_costsMark := gdp_In _ pcs_X11_ask pc_X11_ask [(2, 4), (2, 5), (2, 6), (2, 7), (2, 8), (1, 16), (1, 17), (1, 18)] rfl gw_X8_costsMark
set_option maxRecDepth 20000 in
theorem gX11_ask_X8_costsMark_u132X8 : GoodIn wsX11_ask (va_wsO RX11 132 RX8 "CutAtlas$PlainKind" ⟨"CutAtlas$PlainKind", "costsMark", "()I"⟩ yX8_costsMark wsX8_costsMark) := goodIn_app (goodIn_of _ (by decide +kernel)) ggX11_ask_X8_costsMark
set_option maxRecDepth 20000 in
theorem gX11_ask_X6_costsMark_u132X9 : GoodIn wsX11_ask (va_wsU RX11 132 RX9 "CutAtlas$PlainKind" ⟨"CutAtlas$PlainKind", "costsMark", "()I"⟩ yX6_costsMark wsX6_costsMark) := goodIn_app (goodIn_of _ (by decide +kernel)) ggX11_ask_X6_costsMark
set_option maxRecDepth 20000 in
theorem ggX11_ask_X2_costs : GoodIn wsX11_ask wsX2_costs := gdp_In _ pcs_X11_ask pc_X11_ask [(2, 15)] rfl gw_X2_costs
set_option maxRecDepth 20000 in
theorem gX11_ask_X2_costs_u122X2 : GoodIn wsX11_ask (va_wsO RX11 122 RX2 "CutAtlas$PlainKind" ⟨"CutAtlas$PlainKind", "costs", "(I)I"⟩ yX2_costs wsX2_costs) := goodIn_app (goodIn_of _ (by decide +kernel)) ggX11_ask_X2_costs
set_option maxRecDepth 20000 in
theorem ggX11_ask_X6_costs : GoodIn wsX11_ask wsX6_costs := gdp_In _ pcs_X11_ask pc_X11_ask [(2, 16)] rfl gw_X6_costs
set_option maxRecDepth 20000 in
theorem gX11_ask_X6_costs_u122X5 : GoodIn wsX11_ask (va_wsU RX11 122 RX5 "CutAtlas$PlainKind" ⟨"CutAtlas$PlainKind", "costs", "(I)I"⟩ yX6_costs wsX6_costs) := goodIn_app (goodIn_of _ (by decide +kernel)) ggX11_ask_X6_costs
set_option maxRecDepth 20000 in
theorem gX11_ask_X6_costs : GoodIn wsX11_ask (wsV RX11 122 RX6 yX6_costs wsX6_costs) := goodIn_app (gdp_In _ pcs_X11_ask pc_X11_ask [(2, 19), (2, 18), (2, 20), (1, 22)] rfl (gw_V _ _ _ _)) ggX11_ask_X6_costs
set_option maxRecDepth 20000 in
theorem ggX11_ask_X8_costs : GoodIn wsX11_ask wsX8_costs := gdp_In _ pcs_X11_ask pc_X11_ask [(2, 23), (3, 0), (3, 1), (2, 8), (2, 14), (1, 17), (2, 15)] rfl gw_X8_costs
set_option maxRecDepth 20000 in
theorem gX11_ask_X8_costs_u122X8 : GoodIn wsX11_ask (va_wsO RX11 122 RX8 "CutAtlas$PlainKind" ⟨"CutAtlas$PlainKind", "costs", "(I)I"⟩ yX8_costs wsX8_costs) := goodIn_app (goodIn_of _ (by decide +kernel)) ggX11_ask_X8_costs
set_option maxRecDepth 20000 in
theorem gX11_ask_X6_costs_u122X9 : GoodIn wsX11_ask (va_wsU RX11 122 RX9 "CutAtlas$PlainKind" ⟨"CutAtlas$PlainKind", "costs", "(I)I"⟩ yX6_costs wsX6_costs) := goodIn_app (goodIn_of _ (by decide +kernel)) ggX11_ask_X6_costs
set_option maxRecDepth 20000 in
theorem ggX11_ask_X6_letsMark : GoodIn wsX11_ask wsX6_letsMark := gdp_In _ pcs_X11_ask pc_X11_ask [(3, 7)] rfl gw_X6_letsMark
set_option maxRecDepth 20000 in
theorem gX11_ask_X6_letsMark_u161X2 : GoodIn wsX11_ask (va_wsU RX11 161 RX2 "CutAtlas$PlainKind" ⟨"CutAtlas$PlainKind", "letsMark", "(Z)I"⟩ yX6_letsMark wsX6_letsMark) := goodIn_app (goodIn_of _ (by decide +kernel)) ggX11_ask_X6_letsMark
set_option maxRecDepth 20000 in
theorem ggX11_ask_X5_letsMark : GoodIn wsX11_ask wsX5_letsMark := gdp_In _ pcs_X11_ask pc_X11_ask [(3, 12), (3, 13), (3, 4), (3, 14), (3, 6), (1, 22), (3, 7)] rfl gw_X5_letsMark
set_option maxRecDepth 20000 in
theorem gX11_ask_X5_letsMark_u161X5 : GoodIn wsX11_ask (va_wsO RX11 161 RX5 "CutAtlas$PlainKind" ⟨"CutAtlas$PlainKind", "letsMark", "(Z)I"⟩ yX5_letsMark wsX5_letsMark) := goodIn_app (goodIn_of _ (by decide +kernel)) ggX11_ask_X5_letsMark
set_option maxRecDepth 20000 in
theorem gX11_ask_X6_letsMark : GoodIn wsX11_ask (wsV RX11 161 RX6 yX6_letsMark wsX6_letsMark) := goodIn_app (gdp_In _ pcs_X11_ask pc_X11_ask [(3, 15), (3, 6), (3, 16), (1, 22)] rfl (gw_V _ _ _ _)) ggX11_ask_X6_letsMark
set_option maxRecDepth 20000 in
theorem gX11_ask_X6_letsMark_u161X8 : GoodIn wsX11_ask (va_wsU RX11 161 RX8 "CutAtlas$PlainKind" ⟨"CutAtlas$PlainKind", "letsMark", "(Z)I"⟩ yX6_letsMark wsX6_letsMark) := goodIn_app (goodIn_of _ (by decide +kernel)) ggX11_ask_X6_letsMark
set_option maxRecDepth 20000 in
theorem ggX11_ask_X9_letsMark : GoodIn wsX11_ask wsX9_letsMark := gdp_In _ pcs_X11_ask pc_X11_ask [(3, 21)] rfl gw_X9_letsMark
set_option maxRecDepth 20000 in
theorem gX11_ask_X9_letsMark_u161X9 : GoodIn wsX11_ask (va_wsO RX11 161 RX9 "CutAtlas$PlainKind" ⟨"CutAtlas$PlainKind", "letsMark", "(Z)I"⟩ yX9_letsMark wsX9_letsMark) := goodIn_app (goodIn_of _ (by decide +kernel)) ggX11_ask_X9_letsMark
set_option maxRecDepth 20000 in
theorem ggX11_ask_X6_lets : GoodIn wsX11_ask wsX6_lets := gdp_In _ pcs_X11_ask pc_X11_ask [(4, 2)] rfl gw_X6_lets
set_option maxRecDepth 20000 in
theorem gX11_ask_X6_lets_u165X2 : GoodIn wsX11_ask (va_wsU RX11 165 RX2 "CutAtlas$PlainKind" ⟨"CutAtlas$PlainKind", "lets", "(IZ)I"⟩ yX6_lets wsX6_lets) := goodIn_app (goodIn_of _ (by decide +kernel)) ggX11_ask_X6_lets
set_option maxRecDepth 20000 in
theorem ggX11_ask_X5_lets : GoodIn wsX11_ask wsX5_lets := gdp_In _ pcs_X11_ask pc_X11_ask [(4, 6), (4, 7), (3, 23), (3, 14), (4, 1), (1, 22), (4, 2)] rfl gw_X5_lets
set_option maxRecDepth 20000 in
theorem gX11_ask_X5_lets_u165X5 : GoodIn wsX11_ask (va_wsO RX11 165 RX5 "CutAtlas$PlainKind" ⟨"CutAtlas$PlainKind", "lets", "(IZ)I"⟩ yX5_lets wsX5_lets) := goodIn_app (goodIn_of _ (by decide +kernel)) ggX11_ask_X5_lets
set_option maxRecDepth 20000 in
theorem gX11_ask_X6_lets : GoodIn wsX11_ask (wsV RX11 165 RX6 yX6_lets wsX6_lets) := goodIn_app (gdp_In _ pcs_X11_ask pc_X11_ask [(4, 8), (4, 1), (4, 9), (1, 22)] rfl (gw_V _ _ _ _)) ggX11_ask_X6_lets
set_option maxRecDepth 20000 in
theorem gX11_ask_X6_lets_u165X8 : GoodIn wsX11_ask (va_wsU RX11 165 RX8 "CutAtlas$PlainKind" ⟨"CutAtlas$PlainKind", "lets", "(IZ)I"⟩ yX6_lets wsX6_lets) := goodIn_app (goodIn_of _ (by decide +kernel)) ggX11_ask_X6_lets
set_option maxRecDepth 20000 in
theorem ggX11_ask_X9_lets : GoodIn wsX11_ask wsX9_lets := gdp_In _ pcs_X11_ask pc_X11_ask [(4, 13)] rfl gw_X9_lets
set_option maxRecDepth 20000 in
theorem gX11_ask_X9_lets_u165X9 : GoodIn wsX11_ask (va_wsO RX11 165 RX9 "CutAtlas$PlainKind" ⟨"CutAtlas$PlainKind", "lets", "(IZ)I"⟩ yX9_lets wsX9_lets) := goodIn_app (goodIn_of _ (by decide +kernel)) ggX11_ask_X9_lets
set_option maxRecDepth 20000 in
theorem ggX11_most_X3_hasPair : GoodIn wsX11_most wsX3_hasPair := gdp_In _ pcs_X11_most pc_X11_most [(1, 5), (1, 6), (1, 7), (1, 8), (1, 4), (1, 9), (1, 10), (7, 0), (7, 1), (7, 2), (7, 3), (7, 4), (7, 5), (7, 6)] rfl gw_X3_hasPair
set_option maxRecDepth 20000 in
theorem gX11_most_X3_hasPair : GoodIn wsX11_most (wsV RX11 135 RX3 yX3_hasPair wsX3_hasPair) := goodIn_app (gdp_In _ pcs_X11_most pc_X11_most [(1, 1), (1, 2), (1, 3), (1, 4)] rfl (gw_V _ _ _ _)) ggX11_most_X3_hasPair
set_option maxRecDepth 20000 in
theorem ggX11_most_X11_mostNow : GoodIn wsX11_most wsX11_mostNow := gdp_In _ pcs_X11_most pc_X11_most [(1, 15), (1, 16), (1, 17), (1, 18), (1, 19), (1, 20), (1, 21), (1, 22), (1, 23), (2, 0), (2, 1), (2, 2), (2, 3), (2, 4), (2, 5), (2, 6), (2, 7), (2, 8), (2, 9), (2, 10), (2, 11), (2, 12), (2, 13), (2, 14), (2, 15), (1, 4), (2, 16), (2, 17), (2, 18), (2, 19), (2, 20), (2, 21), (2, 22), (2, 23), (3, 0), (3, 1), (3, 2), (3, 3), (3, 4), (3, 5), (3, 6), (3, 7), (3, 8), (3, 9), (3, 10), (3, 11), (3, 12), (3, 13), (3, 14), (3, 15), (3, 16), (3, 17), (3, 18), (3, 19), (3, 20), (3, 21), (3, 22), (3, 23), (4, 0), (4, 1), (4, 2), (4, 3), (4, 4), (4, 5), (4, 6), (4, 7), (4, 8), (4, 9), (4, 10), (4, 11), (4, 12), (4, 13), (4, 14), (4, 15), (4, 16), (4, 17), (4, 18), (4, 19), (4, 20), (4, 21), (4, 22), (4, 23), (5, 0), (5, 1), (5, 2), (6, 0), (6, 1), (6, 2), (6, 3), (6, 4), (6, 5), (6, 6), (6, 7), (6, 8), (6, 9), (6, 10), (6, 11), (8, 0), (8, 1), (8, 2), (8, 3), (8, 4), (8, 5), (8, 6), (8, 7), (8, 8), (7, 0), (7, 1), (7, 2), (7, 3), (7, 4), (7, 5), (7, 6)] rfl gw_X11_mostNow
set_option maxRecDepth 20000 in
theorem gX11_most_X11_mostNow : GoodIn wsX11_most (wsV RX11 169 RX11 yX11_mostNow wsX11_mostNow) := goodIn_app (gdp_In _ pcs_X11_most pc_X11_most [(1, 11), (1, 12), (1, 13), (1, 14)] rfl (gw_V _ _ _ _)) ggX11_most_X11_mostNow
set_option maxRecDepth 20000 in
theorem ggX11_flow_X3_hasPair : GoodIn wsX11_flow wsX3_hasPair := gdp_In _ pcs_X11_flow pc_X11_flow [(1, 8), (1, 9), (1, 10), (1, 11), (1, 7), (1, 12), (1, 13), (8, 0), (8, 1), (8, 2), (8, 3), (8, 4), (8, 5), (8, 6)] rfl gw_X3_hasPair
set_option maxRecDepth 20000 in
theorem gX11_flow_X3_hasPair : GoodIn wsX11_flow (wsV RX11 135 RX3 yX3_hasPair wsX3_hasPair) := goodIn_app (gdp_In _ pcs_X11_flow pc_X11_flow [(1, 4), (1, 5), (1, 6), (1, 7)] rfl (gw_V _ _ _ _)) ggX11_flow_X3_hasPair
set_option maxRecDepth 20000 in
theorem ggX11_flow_X3_hasLine : GoodIn wsX11_flow wsX3_hasLine := gdp_In _ pcs_X11_flow pc_X11_flow [(1, 17), (1, 18), (8, 0), (8, 1), (8, 2), (8, 3), (8, 4), (8, 5), (8, 6)] rfl gw_X3_hasLine
set_option maxRecDepth 20000 in
theorem gX11_flow_X3_hasLine : GoodIn wsX11_flow (wsV RX11 112 RX3 yX3_hasLine wsX3_hasLine) := goodIn_app (gdp_In _ pcs_X11_flow pc_X11_flow [(1, 14), (1, 15), (1, 16), (1, 7)] rfl (gw_V _ _ _ _)) ggX11_flow_X3_hasLine
set_option maxRecDepth 20000 in
theorem ggX11_flow_X3_isMissing : GoodIn wsX11_flow wsX3_isMissing := gdp_In _ pcs_X11_flow pc_X11_flow [(1, 22), (1, 23), (8, 0), (8, 1), (8, 2), (8, 3), (8, 4), (8, 5), (8, 6)] rfl gw_X3_isMissing
set_option maxRecDepth 20000 in
theorem gX11_flow_X3_isMissing : GoodIn wsX11_flow (wsV RX11 126 RX3 yX3_isMissing wsX3_isMissing) := goodIn_app (gdp_In _ pcs_X11_flow pc_X11_flow [(1, 19), (1, 20), (1, 21), (1, 7)] rfl (gw_V _ _ _ _)) ggX11_flow_X3_isMissing
set_option maxRecDepth 20000 in
theorem ggX11_flow_X11_mostNow : GoodIn wsX11_flow wsX11_mostNow := gdp_In _ pcs_X11_flow pc_X11_flow [(2, 4), (1, 2), (2, 5), (2, 6), (2, 7), (2, 8), (2, 9), (2, 10), (2, 11), (2, 12), (2, 13), (2, 14), (2, 15), (2, 16), (2, 17), (2, 18), (2, 19), (2, 20), (2, 21), (2, 22), (2, 23), (3, 0), (3, 1), (1, 20), (1, 21), (1, 7), (1, 22), (1, 23), (3, 2), (3, 3), (3, 4), (3, 5), (3, 6), (3, 7), (3, 8), (3, 9), (3, 10), (3, 11), (3, 12), (3, 13), (3, 14), (3, 15), (3, 16), (3, 17), (3, 18), (3, 19), (3, 20), (3, 21), (3, 22), (3, 23), (4, 0), (4, 1), (4, 2), (4, 3), (4, 4), (4, 5), (4, 6), (4, 7), (4, 8), (4, 9), (4, 10), (4, 11), (4, 12), (4, 13), (4, 14), (4, 15), (4, 16), (4, 17), (4, 18), (4, 19), (4, 20), (4, 21), (4, 22), (4, 23), (5, 0), (5, 1), (5, 2), (5, 3), (5, 4), (5, 5), (5, 6), (5, 7), (5, 8), (5, 9), (5, 10), (6, 0), (6, 1), (6, 2), (6, 3), (6, 4), (6, 5), (6, 6), (6, 7), (6, 8), (6, 9), (6, 10), (6, 11), (7, 0), (7, 1), (7, 2), (7, 3), (7, 4), (7, 5), (7, 6), (7, 7), (7, 8), (8, 0), (8, 1), (8, 2), (8, 3), (8, 4), (8, 5), (8, 6)] rfl gw_X11_mostNow
set_option maxRecDepth 20000 in
theorem gX11_flow_X11_mostNow : GoodIn wsX11_flow (wsV RX11 169 RX11 yX11_mostNow wsX11_mostNow) := goodIn_app (gdp_In _ pcs_X11_flow pc_X11_flow [(2, 0), (2, 1), (2, 2), (2, 3)] rfl (gw_V _ _ _ _)) ggX11_flow_X11_mostNow
set_option maxRecDepth 20000 in
theorem ggX11_cut_X3_hasPair : GoodIn wsX11_cut wsX3_hasPair := gdp_In _ pcs_X11_cut pc_X11_cut [(1, 6), (1, 7), (1, 8), (1, 9), (1, 5), (1, 10), (1, 11), (7, 0), (7, 1), (7, 2), (7, 3), (7, 4), (7, 5), (7, 6)] rfl gw_X3_hasPair
set_option maxRecDepth 20000 in
theorem gX11_cut_X3_hasPair : GoodIn wsX11_cut (wsV RX11 135 RX3 yX3_hasPair wsX3_hasPair) := goodIn_app (gdp_In _ pcs_X11_cut pc_X11_cut [(1, 2), (1, 3), (1, 4), (1, 5)] rfl (gw_V _ _ _ _)) ggX11_cut_X3_hasPair
set_option maxRecDepth 20000 in
theorem ggX11_cut_X11_mostNow : GoodIn wsX11_cut wsX11_mostNow := gdp_In _ pcs_X11_cut pc_X11_cut [(1, 16), (1, 1), (1, 17), (1, 18), (1, 19), (1, 20), (1, 21), (1, 22), (1, 23), (2, 0), (2, 1), (2, 2), (2, 3), (2, 4), (2, 5), (2, 6), (2, 7), (2, 8), (2, 9), (2, 10), (2, 11), (2, 12), (2, 13), (2, 14), (2, 15), (1, 5), (2, 16), (2, 17), (2, 18), (2, 19), (2, 20), (2, 21), (2, 22), (2, 23), (3, 0), (3, 1), (3, 2), (3, 3), (3, 4), (3, 5), (3, 6), (3, 7), (3, 8), (3, 9), (3, 10), (3, 11), (3, 12), (3, 13), (3, 14), (3, 15), (3, 16), (3, 17), (3, 18), (3, 19), (3, 20), (3, 21), (3, 22), (3, 23), (4, 0), (4, 1), (4, 2), (4, 3), (4, 4), (4, 5), (4, 6), (4, 7), (4, 8), (4, 9), (4, 10), (4, 11), (4, 12), (4, 13), (4, 14), (4, 15), (4, 16), (4, 17), (4, 18), (4, 19), (4, 20), (4, 21), (4, 22), (4, 23), (5, 0), (5, 1), (5, 2), (6, 0), (6, 1), (6, 2), (6, 3), (6, 4), (6, 5), (6, 6), (6, 7), (6, 8), (6, 9), (6, 10), (6, 11), (8, 0), (8, 1), (8, 2), (8, 3), (8, 4), (8, 5), (8, 6), (8, 7), (8, 8), (7, 0), (7, 1), (7, 2), (7, 3), (7, 4), (7, 5), (7, 6)] rfl gw_X11_mostNow
set_option maxRecDepth 20000 in
theorem gX11_cut_X11_mostNow : GoodIn wsX11_cut (wsV RX11 169 RX11 yX11_mostNow wsX11_mostNow) := goodIn_app (gdp_In _ pcs_X11_cut pc_X11_cut [(1, 12), (1, 13), (1, 14), (1, 15)] rfl (gw_V _ _ _ _)) ggX11_cut_X11_mostNow
set_option maxRecDepth 20000 in
theorem ggX11_cut_X0_nearCut : GoodIn wsX11_cut wsX0_nearCut := gdp_In _ pcs_X11_cut pc_X11_cut [(5, 6), (4, 4), (4, 5), (4, 6), (1, 20), (4, 7), (4, 8), (1, 22), (1, 23), (3, 23), (8, 0), (8, 1), (8, 2), (8, 3), (8, 4), (8, 5), (8, 6), (8, 7), (8, 8), (7, 0), (7, 1), (7, 2), (7, 3), (7, 4), (7, 5), (7, 6)] rfl gw_X0_nearCut
set_option maxRecDepth 20000 in
theorem gX11_cut_X0_nearCut : GoodIn wsX11_cut (wsV RX11 176 RX0 yX0_nearCut wsX0_nearCut) := goodIn_app (gdp_In _ pcs_X11_cut pc_X11_cut [(5, 3), (5, 4), (5, 5), (1, 20)] rfl (gw_V _ _ _ _)) ggX11_cut_X0_nearCut
set_option maxRecDepth 20000 in
theorem ggX11_cut_X0_farCut : GoodIn wsX11_cut wsX0_farCut := gdp_In _ pcs_X11_cut pc_X11_cut [(5, 10), (1, 22), (1, 23), (5, 11), (5, 12), (5, 13), (1, 20), (5, 14), (4, 8), (3, 23), (8, 0), (8, 1), (8, 2), (8, 3), (8, 4), (8, 5), (8, 6), (8, 7), (8, 8), (7, 0), (7, 1), (7, 2), (7, 3), (7, 4), (7, 5), (7, 6)] rfl gw_X0_farCut
set_option maxRecDepth 20000 in
theorem gX11_cut_X0_farCut : GoodIn wsX11_cut (wsV RX11 179 RX0 yX0_farCut wsX0_farCut) := goodIn_app (gdp_In _ pcs_X11_cut pc_X11_cut [(5, 7), (5, 8), (5, 9), (1, 20)] rfl (gw_V _ _ _ _)) ggX11_cut_X0_farCut
set_option maxRecDepth 20000 in
theorem ggX11_count_X3_hasPair : GoodIn wsX11_count wsX3_hasPair := gdp_In _ pcs_X11_count pc_X11_count [(1, 6), (1, 7), (1, 8), (1, 9), (1, 5), (1, 10), (1, 11), (8, 0), (8, 1), (8, 2), (8, 3), (8, 4), (8, 5), (8, 6)] rfl gw_X3_hasPair
set_option maxRecDepth 20000 in
theorem gX11_count_X3_hasPair : GoodIn wsX11_count (wsV RX11 135 RX3 yX3_hasPair wsX3_hasPair) := goodIn_app (gdp_In _ pcs_X11_count pc_X11_count [(1, 2), (1, 3), (1, 4), (1, 5)] rfl (gw_V _ _ _ _)) ggX11_count_X3_hasPair
set_option maxRecDepth 20000 in
theorem ggX11_count_X11_mostNow : GoodIn wsX11_count wsX11_mostNow := gdp_In _ pcs_X11_count pc_X11_count [(1, 16), (1, 17), (1, 18), (1, 19), (1, 20), (1, 21), (1, 22), (1, 23), (2, 0), (2, 1), (2, 2), (2, 3), (2, 4), (2, 5), (2, 6), (2, 7), (2, 8), (2, 9), (2, 10), (2, 11), (2, 12), (2, 13), (2, 14), (2, 15), (2, 16), (1, 5), (2, 17), (2, 18), (2, 19), (2, 20), (2, 21), (2, 22), (2, 23), (3, 0), (3, 1), (3, 2), (3, 3), (3, 4), (3, 5), (3, 6), (3, 7), (3, 8), (3, 9), (3, 10), (3, 11), (3, 12), (3, 13), (3, 14), (3, 15), (3, 16), (3, 17), (3, 18), (3, 19), (3, 20), (3, 21), (3, 22), (3, 23), (4, 0), (4, 1), (4, 2), (4, 3), (4, 4), (4, 5), (4, 6), (4, 7), (4, 8), (4, 9), (4, 10), (4, 11), (4, 12), (4, 13), (4, 14), (4, 15), (4, 16), (4, 17), (4, 18), (4, 19), (4, 20), (4, 21), (4, 22), (4, 23), (5, 0), (5, 1), (5, 2), (5, 3), (7, 0), (7, 1), (7, 2), (7, 3), (7, 4), (7, 5), (7, 6), (7, 7), (7, 8), (7, 9), (7, 10), (7, 11), (9, 0), (9, 1), (9, 2), (9, 3), (9, 4), (9, 5), (9, 6), (9, 7), (9, 8), (8, 0), (8, 1), (8, 2), (8, 3), (8, 4), (8, 5), (8, 6)] rfl gw_X11_mostNow
set_option maxRecDepth 20000 in
theorem gX11_count_X11_mostNow : GoodIn wsX11_count (wsV RX11 169 RX11 yX11_mostNow wsX11_mostNow) := goodIn_app (gdp_In _ pcs_X11_count pc_X11_count [(1, 12), (1, 13), (1, 14), (1, 15)] rfl (gw_V _ _ _ _)) ggX11_count_X11_mostNow
set_option maxRecDepth 20000 in
theorem ggX11_count_X7_countCuts : GoodIn wsX11_count wsX7_countCuts := gdp_In _ pcs_X11_count pc_X11_count [(5, 8), (5, 9), (5, 10), (5, 11), (5, 12), (5, 13), (5, 7), (5, 14), (5, 15), (5, 16), (5, 17), (5, 18), (5, 19), (5, 20), (5, 21), (5, 22), (5, 23), (6, 0), (6, 1), (6, 2), (6, 3), (6, 4), (6, 5), (6, 6), (6, 7), (6, 8), (6, 9), (6, 10), (6, 11), (6, 12), (6, 13), (6, 14), (6, 15), (10, 0), (10, 1), (10, 2), (10, 3), (10, 4), (10, 5), (10, 6), (10, 7), (10, 8), (9, 0), (9, 1), (9, 2), (9, 3), (9, 4), (9, 5), (9, 6), (9, 7), (9, 8), (8, 0), (8, 1), (8, 2), (8, 3), (8, 4), (8, 5), (8, 6)] rfl gw_X7_countCuts
set_option maxRecDepth 20000 in
theorem gX11_count_X7_countCuts : GoodIn wsX11_count (wsV RX11 182 RX7 yX7_countCuts wsX7_countCuts) := goodIn_app (gdp_In _ pcs_X11_count pc_X11_count [(5, 4), (5, 5), (5, 6), (5, 7)] rfl (gw_V _ _ _ _)) ggX11_count_X7_countCuts
set_option maxRecDepth 20000 in
theorem ggX11_next_X3_hasPair : GoodIn wsX11_next wsX3_hasPair := gdp_In _ pcs_X11_next pc_X11_next [(1, 6), (1, 7), (1, 8), (1, 9), (1, 5), (1, 10), (1, 11), (8, 0), (8, 1), (8, 2), (8, 3), (8, 4), (8, 5), (8, 6)] rfl gw_X3_hasPair
set_option maxRecDepth 20000 in
theorem gX11_next_X3_hasPair : GoodIn wsX11_next (wsV RX11 135 RX3 yX3_hasPair wsX3_hasPair) := goodIn_app (gdp_In _ pcs_X11_next pc_X11_next [(1, 2), (1, 3), (1, 4), (1, 5)] rfl (gw_V _ _ _ _)) ggX11_next_X3_hasPair
set_option maxRecDepth 20000 in
theorem ggX11_next_X11_mostNow : GoodIn wsX11_next wsX11_mostNow := gdp_In _ pcs_X11_next pc_X11_next [(1, 16), (1, 17), (1, 18), (1, 19), (1, 20), (1, 21), (1, 22), (1, 23), (2, 0), (2, 1), (2, 2), (2, 3), (2, 4), (2, 5), (2, 6), (2, 7), (2, 8), (2, 9), (2, 10), (2, 11), (2, 12), (2, 13), (2, 14), (2, 15), (2, 16), (1, 5), (2, 17), (2, 18), (2, 19), (2, 20), (2, 21), (2, 22), (2, 23), (3, 0), (3, 1), (3, 2), (3, 3), (3, 4), (3, 5), (3, 6), (3, 7), (3, 8), (3, 9), (3, 10), (3, 11), (3, 12), (3, 13), (3, 14), (3, 15), (3, 16), (3, 17), (3, 18), (3, 19), (3, 20), (3, 21), (3, 22), (3, 23), (4, 0), (4, 1), (4, 2), (4, 3), (4, 4), (4, 5), (4, 6), (4, 7), (4, 8), (4, 9), (4, 10), (4, 11), (4, 12), (4, 13), (4, 14), (4, 15), (4, 16), (4, 17), (4, 18), (4, 19), (4, 20), (4, 21), (4, 22), (4, 23), (5, 0), (5, 1), (5, 2), (5, 3), (7, 0), (7, 1), (7, 2), (7, 3), (7, 4), (7, 5), (7, 6), (7, 7), (7, 8), (7, 9), (7, 10), (7, 11), (9, 0), (9, 1), (9, 2), (9, 3), (9, 4), (9, 5), (9, 6), (9, 7), (9, 8), (8, 0), (8, 1), (8, 2), (8, 3), (8, 4), (8, 5), (8, 6)] rfl gw_X11_mostNow
set_option maxRecDepth 20000 in
theorem gX11_next_X11_mostNow : GoodIn wsX11_next (wsV RX11 169 RX11 yX11_mostNow wsX11_mostNow) := goodIn_app (gdp_In _ pcs_X11_next pc_X11_next [(1, 12), (1, 13), (1, 14), (1, 15)] rfl (gw_V _ _ _ _)) ggX11_next_X11_mostNow
set_option maxRecDepth 20000 in
theorem ggX11_next_X7_findCut : GoodIn wsX11_next wsX7_findCut := gdp_In _ pcs_X11_next pc_X11_next [(5, 8), (5, 9), (5, 10), (5, 11), (5, 12), (5, 7), (5, 13), (5, 14), (5, 15), (5, 16), (5, 17), (5, 18), (5, 19), (5, 20), (5, 21), (5, 22), (5, 23), (6, 0), (6, 1), (6, 2), (6, 3), (6, 4), (6, 5), (6, 6), (6, 7), (6, 8), (6, 9), (6, 10), (6, 11), (6, 12), (6, 13), (6, 14), (10, 0), (10, 1), (10, 2), (10, 3), (10, 4), (10, 5), (10, 6), (10, 7), (10, 8), (9, 0), (9, 1), (9, 2), (9, 3), (9, 4), (9, 5), (9, 6), (9, 7), (9, 8), (8, 0), (8, 1), (8, 2), (8, 3), (8, 4), (8, 5), (8, 6)] rfl gw_X7_findCut
set_option maxRecDepth 20000 in
theorem gX11_next_X7_findCut : GoodIn wsX11_next (wsV RX11 186 RX7 yX7_findCut wsX7_findCut) := goodIn_app (gdp_In _ pcs_X11_next pc_X11_next [(5, 4), (5, 5), (5, 6), (5, 7)] rfl (gw_V _ _ _ _)) ggX11_next_X7_findCut
set_option maxRecDepth 20000 in
theorem ggX11_size_X3_hasPair : GoodIn wsX11_size wsX3_hasPair := gdp_In _ pcs_X11_size pc_X11_size [(1, 7), (1, 8), (1, 9), (1, 10), (1, 6), (1, 11), (1, 12), (5, 0), (5, 1), (5, 2), (5, 3), (5, 4), (5, 5), (5, 6)] rfl gw_X3_hasPair
set_option maxRecDepth 20000 in
theorem gX11_size_X3_hasPair : GoodIn wsX11_size (wsV RX11 135 RX3 yX3_hasPair wsX3_hasPair) := goodIn_app (gdp_In _ pcs_X11_size pc_X11_size [(1, 3), (1, 4), (1, 5), (1, 6)] rfl (gw_V _ _ _ _)) ggX11_size_X3_hasPair
set_option maxRecDepth 20000 in
theorem ggX11_size_X0_load : GoodIn wsX11_size wsX0_load := gdp_In _ pcs_X11_size pc_X11_size [(1, 17), (1, 18), (1, 19), (1, 20), (1, 21), (1, 22), (1, 23), (2, 0), (2, 1), (2, 2), (2, 3), (2, 4), (2, 5), (2, 6), (2, 7), (2, 8), (2, 9), (2, 10), (2, 11), (1, 6), (2, 12), (2, 13), (2, 14), (2, 15), (2, 16), (2, 17), (2, 18), (2, 19), (2, 20), (2, 21), (2, 22), (2, 23), (3, 0), (3, 1), (3, 2), (3, 3), (3, 4), (3, 5), (3, 6), (3, 7), (3, 8), (3, 9), (3, 10), (3, 11), (1, 16), (3, 12), (3, 13), (6, 0), (6, 1), (6, 2), (6, 3), (6, 4), (6, 5), (6, 6), (6, 7), (6, 8), (5, 0), (5, 1), (5, 2), (5, 3), (5, 4), (5, 5), (5, 6)] rfl gw_X0_load
set_option maxRecDepth 20000 in
theorem gX11_size_X0_load : GoodIn wsX11_size (wsV RX11 190 RX0 yX0_load wsX0_load) := goodIn_app (gdp_In _ pcs_X11_size pc_X11_size [(1, 13), (1, 14), (1, 15), (1, 16)] rfl (gw_V _ _ _ _)) ggX11_size_X0_load
set_option maxRecDepth 20000 in
theorem ggX11_size_X0_leaving : GoodIn wsX11_size wsX0_leaving := gdp_In _ pcs_X11_size pc_X11_size [(3, 17), (1, 18), (1, 19), (3, 18), (3, 19), (3, 20), (1, 16), (3, 21), (1, 20), (6, 0), (6, 1), (6, 2), (6, 3), (6, 4), (6, 5), (6, 6), (6, 7), (6, 8), (5, 0), (5, 1), (5, 2), (5, 3), (5, 4), (5, 5), (5, 6)] rfl gw_X0_leaving
set_option maxRecDepth 20000 in
theorem gX11_size_X0_leaving : GoodIn wsX11_size (wsV RX11 194 RX0 yX0_leaving wsX0_leaving) := goodIn_app (gdp_In _ pcs_X11_size pc_X11_size [(3, 14), (3, 15), (3, 16), (1, 16)] rfl (gw_V _ _ _ _)) ggX11_size_X0_leaving
set_option maxRecDepth 20000 in
theorem ggX11_raise_X3_hasPair : GoodIn wsX11_raise wsX3_hasPair := gdp_In _ pcs_X11_raise pc_X11_raise [(1, 6), (1, 7), (1, 8), (1, 9), (1, 5), (1, 10), (1, 11), (7, 0), (7, 1), (7, 2), (7, 3), (7, 4), (7, 5), (7, 6)] rfl gw_X3_hasPair
set_option maxRecDepth 20000 in
theorem gX11_raise_X3_hasPair : GoodIn wsX11_raise (wsV RX11 135 RX3 yX3_hasPair wsX3_hasPair) := goodIn_app (gdp_In _ pcs_X11_raise pc_X11_raise [(1, 2), (1, 3), (1, 4), (1, 5)] rfl (gw_V _ _ _ _)) ggX11_raise_X3_hasPair
set_option maxRecDepth 20000 in
theorem ggX11_raise_X3_hasLine : GoodIn wsX11_raise wsX3_hasLine := gdp_In _ pcs_X11_raise pc_X11_raise [(1, 15), (1, 16), (7, 0), (7, 1), (7, 2), (7, 3), (7, 4), (7, 5), (7, 6)] rfl gw_X3_hasLine
set_option maxRecDepth 20000 in
theorem gX11_raise_X3_hasLine : GoodIn wsX11_raise (wsV RX11 112 RX3 yX3_hasLine wsX3_hasLine) := goodIn_app (gdp_In _ pcs_X11_raise pc_X11_raise [(1, 12), (1, 13), (1, 14), (1, 5)] rfl (gw_V _ _ _ _)) ggX11_raise_X3_hasLine
set_option maxRecDepth 20000 in
theorem ggX11_raise_X3_isMissing : GoodIn wsX11_raise wsX3_isMissing := gdp_In _ pcs_X11_raise pc_X11_raise [(1, 20), (1, 21), (7, 0), (7, 1), (7, 2), (7, 3), (7, 4), (7, 5), (7, 6)] rfl gw_X3_isMissing
set_option maxRecDepth 20000 in
theorem gX11_raise_X3_isMissing : GoodIn wsX11_raise (wsV RX11 126 RX3 yX3_isMissing wsX3_isMissing) := goodIn_app (gdp_In _ pcs_X11_raise pc_X11_raise [(1, 17), (1, 18), (1, 19), (1, 5)] rfl (gw_V _ _ _ _)) ggX11_raise_X3_isMissing
set_option maxRecDepth 20000 in
theorem ggX11_raise_X0_load : GoodIn wsX11_raise wsX0_load := gdp_In _ pcs_X11_raise pc_X11_raise [(2, 2), (2, 3), (2, 4), (2, 5), (2, 6), (2, 7), (2, 8), (2, 9), (2, 10), (2, 11), (2, 12), (2, 13), (2, 14), (2, 15), (2, 16), (2, 17), (2, 18), (1, 18), (1, 19), (1, 5), (1, 20), (1, 21), (2, 19), (2, 20), (2, 21), (2, 22), (2, 23), (3, 0), (3, 1), (3, 2), (3, 3), (3, 4), (3, 5), (3, 6), (3, 7), (3, 8), (3, 9), (3, 10), (3, 11), (3, 12), (3, 13), (3, 14), (3, 15), (3, 16), (2, 1), (3, 17), (3, 18), (8, 0), (8, 1), (8, 2), (8, 3), (8, 4), (8, 5), (8, 6), (8, 7), (8, 8), (7, 0), (7, 1), (7, 2), (7, 3), (7, 4), (7, 5), (7, 6)] rfl gw_X0_load
set_option maxRecDepth 20000 in
theorem gX11_raise_X0_load : GoodIn wsX11_raise (wsV RX11 190 RX0 yX0_load wsX0_load) := goodIn_app (gdp_In _ pcs_X11_raise pc_X11_raise [(1, 22), (1, 23), (2, 0), (2, 1)] rfl (gw_V _ _ _ _)) ggX11_raise_X0_load
set_option maxRecDepth 20000 in
theorem ggX11_raise_X0_fill : GoodIn wsX11_raise wsX0_fill := gdp_In _ pcs_X11_raise pc_X11_raise [(3, 22), (3, 23), (2, 3), (2, 4), (2, 5), (4, 0), (4, 1), (4, 2), (4, 3), (4, 4), (3, 18), (2, 14), (2, 15), (2, 16), (2, 17), (4, 5), (4, 6), (4, 7), (2, 1), (4, 8), (4, 9), (4, 10), (4, 11), (4, 12), (4, 13), (4, 14), (4, 15), (4, 16), (4, 17), (4, 18), (4, 19), (4, 20), (4, 21), (4, 22), (4, 23), (5, 0), (5, 1), (5, 2), (5, 3), (2, 6), (2, 12), (2, 13), (2, 10), (2, 11), (8, 0), (8, 1), (8, 2), (8, 3), (8, 4), (8, 5), (8, 6), (8, 7), (8, 8), (7, 0), (7, 1), (7, 2), (7, 3), (7, 4), (7, 5), (7, 6)] rfl gw_X0_fill
set_option maxRecDepth 20000 in
theorem gX11_raise_X0_fill : GoodIn wsX11_raise (wsV RX11 198 RX0 yX0_fill wsX0_fill) := goodIn_app (gdp_In _ pcs_X11_raise pc_X11_raise [(3, 19), (3, 20), (3, 21), (2, 1)] rfl (gw_V _ _ _ _)) ggX11_raise_X0_fill
set_option maxRecDepth 20000 in
theorem ggX11_cheapest_X3_hasPair : GoodIn wsX11_cheapest wsX3_hasPair := gdp_In _ pcs_X11_cheapest pc_X11_cheapest [(1, 6), (1, 7), (1, 8), (1, 9), (1, 5), (1, 10), (1, 11), (10, 0), (10, 1), (10, 2), (10, 3), (10, 4), (10, 5), (10, 6)] rfl gw_X3_hasPair
set_option maxRecDepth 20000 in
theorem gX11_cheapest_X3_hasPair : GoodIn wsX11_cheapest (wsV RX11 135 RX3 yX3_hasPair wsX3_hasPair) := goodIn_app (gdp_In _ pcs_X11_cheapest pc_X11_cheapest [(1, 2), (1, 3), (1, 4), (1, 5)] rfl (gw_V _ _ _ _)) ggX11_cheapest_X3_hasPair
set_option maxRecDepth 20000 in
theorem ggX11_cheapest_X11_mostNow : GoodIn wsX11_cheapest wsX11_mostNow := gdp_In _ pcs_X11_cheapest pc_X11_cheapest [(1, 16), (1, 17), (1, 18), (1, 19), (1, 20), (1, 21), (1, 22), (1, 23), (2, 0), (2, 1), (2, 2), (2, 3), (2, 4), (2, 5), (2, 6), (2, 7), (2, 8), (2, 9), (2, 10), (2, 11), (2, 12), (2, 13), (2, 14), (2, 15), (2, 16), (1, 5), (2, 17), (2, 18), (2, 19), (2, 20), (2, 21), (2, 22), (2, 23), (3, 0), (3, 1), (3, 2), (3, 3), (3, 4), (3, 5), (3, 6), (3, 7), (3, 8), (3, 9), (3, 10), (3, 11), (3, 12), (3, 13), (3, 14), (3, 15), (3, 16), (3, 17), (3, 18), (3, 19), (3, 20), (3, 21), (3, 22), (3, 23), (4, 0), (4, 1), (4, 2), (4, 3), (4, 4), (4, 5), (4, 6), (4, 7), (4, 8), (4, 9), (4, 10), (4, 11), (4, 12), (4, 13), (4, 14), (4, 15), (4, 16), (4, 17), (4, 18), (4, 19), (4, 20), (4, 21), (4, 22), (4, 23), (5, 0), (5, 1), (5, 2), (5, 3), (9, 0), (9, 1), (9, 2), (9, 3), (9, 4), (9, 5), (9, 6), (9, 7), (9, 8), (9, 9), (9, 10), (9, 11), (11, 0), (11, 1), (11, 2), (11, 3), (11, 4), (11, 5), (11, 6), (11, 7), (11, 8), (10, 0), (10, 1), (10, 2), (10, 3), (10, 4), (10, 5), (10, 6)] rfl gw_X11_mostNow
set_option maxRecDepth 20000 in
theorem gX11_cheapest_X11_mostNow : GoodIn wsX11_cheapest (wsV RX11 169 RX11 yX11_mostNow wsX11_mostNow) := goodIn_app (gdp_In _ pcs_X11_cheapest pc_X11_cheapest [(1, 12), (1, 13), (1, 14), (1, 15)] rfl (gw_V _ _ _ _)) ggX11_cheapest_X11_mostNow
set_option maxRecDepth 20000 in
theorem ggX11_cheapest_X10_pay : GoodIn wsX11_cheapest wsX10_pay := gdp_In _ pcs_X11_cheapest pc_X11_cheapest [(5, 8), (5, 9), (5, 10), (5, 11), (5, 12), (5, 13), (5, 7), (5, 14), (5, 15), (5, 16), (5, 17), (5, 18), (5, 19), (5, 20), (5, 21), (5, 22), (5, 23), (6, 0), (6, 1), (4, 21), (4, 22), (4, 23), (6, 2), (2, 11), (2, 12), (2, 13), (6, 3), (6, 4), (6, 5), (6, 6), (6, 7), (6, 8), (6, 9), (6, 10), (6, 11), (6, 12), (2, 23), (6, 13), (6, 14), (6, 15), (6, 16), (6, 17), (6, 18), (6, 19), (6, 20), (6, 21), (6, 22), (6, 23), (2, 15), (2, 16), (1, 5), (2, 17), (2, 18), (7, 0), (7, 1), (7, 2), (7, 3), (7, 4), (7, 5), (7, 6), (7, 7), (7, 8), (7, 9), (7, 10), (7, 11), (7, 12), (7, 13), (7, 14), (7, 15), (7, 16), (7, 17), (7, 18), (7, 19), (7, 20), (7, 21), (7, 22), (7, 23), (8, 0), (8, 1), (12, 0), (12, 1), (12, 2), (12, 3), (12, 4), (11, 0), (11, 1), (11, 2), (11, 3), (11, 4), (11, 5), (11, 6), (11, 7), (11, 8), (10, 0), (10, 1), (10, 2), (10, 3), (10, 4), (10, 5), (10, 6)] rfl gw_X10_pay
set_option maxRecDepth 20000 in
theorem gX11_cheapest_X10_pay : GoodIn wsX11_cheapest (wsV RX11 201 RX10 yX10_pay wsX10_pay) := goodIn_app (gdp_In _ pcs_X11_cheapest pc_X11_cheapest [(5, 4), (5, 5), (5, 6), (5, 7)] rfl (gw_V _ _ _ _)) ggX11_cheapest_X10_pay
set_option maxRecDepth 20000 in
theorem ggX11_tree_X3_isWhole : GoodIn wsX11_tree wsX3_isWhole := gdp_In _ pcs_X11_tree pc_X11_tree [(1, 8), (1, 9), (1, 10), (1, 11), (1, 12), (1, 13), (1, 14), (1, 7), (1, 15), (1, 16), (8, 0), (8, 1), (8, 2), (8, 3), (8, 4), (8, 5), (8, 6)] rfl gw_X3_isWhole
set_option maxRecDepth 20000 in
theorem gX11_tree_X3_isWhole : GoodIn wsX11_tree (wsV RX11 204 RX3 yX3_isWhole wsX3_isWhole) := goodIn_app (gdp_In _ pcs_X11_tree pc_X11_tree [(1, 4), (1, 5), (1, 6), (1, 7)] rfl (gw_V _ _ _ _)) ggX11_tree_X3_isWhole
set_option maxRecDepth 20000 in
theorem ggX11_tree_X3_hasPlace : GoodIn wsX11_tree wsX3_hasPlace := gdp_In _ pcs_X11_tree pc_X11_tree [(1, 20), (1, 11), (8, 0), (8, 1), (8, 2), (8, 3), (8, 4), (8, 5), (8, 6)] rfl gw_X3_hasPlace
set_option maxRecDepth 20000 in
theorem gX11_tree_X3_hasPlace : GoodIn wsX11_tree (wsV RX11 208 RX3 yX3_hasPlace wsX3_hasPlace) := goodIn_app (gdp_In _ pcs_X11_tree pc_X11_tree [(1, 17), (1, 18), (1, 19), (1, 7)] rfl (gw_V _ _ _ _)) ggX11_tree_X3_hasPlace
set_option maxRecDepth 20000 in
theorem ggX11_tree_X1_grow : GoodIn wsX11_tree wsX1_grow := gdp_In _ pcs_X11_tree pc_X11_tree [(2, 1), (2, 2), (2, 3), (2, 4), (2, 5), (2, 6), (2, 7), (2, 8), (2, 9), (2, 10), (2, 11), (2, 12), (2, 13), (2, 14), (2, 15), (2, 16), (2, 17), (2, 18), (2, 19), (2, 20), (2, 21), (2, 22), (2, 23), (3, 0), (3, 1), (3, 2), (3, 3), (1, 13), (1, 14), (1, 7), (1, 15), (1, 16), (3, 4), (3, 5), (3, 6), (3, 7), (3, 8), (3, 9), (3, 10), (3, 11), (3, 12), (3, 13), (3, 14), (3, 15), (3, 16), (3, 17), (3, 18), (3, 19), (3, 20), (3, 21), (3, 22), (3, 23), (4, 0), (4, 1), (4, 2), (4, 3), (4, 4), (4, 5), (4, 6), (4, 7), (2, 0), (4, 8), (4, 9), (4, 10), (4, 11), (4, 12), (4, 13), (4, 14), (4, 15), (4, 16), (4, 17), (4, 18), (4, 19), (4, 20), (4, 21), (4, 22), (4, 23), (5, 0), (5, 1), (5, 2), (5, 3), (5, 4), (5, 5), (5, 6), (5, 7), (5, 8), (5, 9), (5, 10), (5, 11), (5, 12), (5, 13), (5, 14), (5, 15), (5, 16), (5, 17), (5, 18), (5, 19), (5, 20), (5, 21), (7, 0), (7, 1), (7, 2), (9, 0), (9, 1), (9, 2), (9, 3), (9, 4), (9, 5), (9, 6), (9, 7), (9, 8), (8, 0), (8, 1), (8, 2), (8, 3), (8, 4), (8, 5), (8, 6)] rfl gw_X1_grow
set_option maxRecDepth 20000 in
theorem gX11_tree_X1_grow : GoodIn wsX11_tree (wsV RX11 212 RX1 yX1_grow wsX1_grow) := goodIn_app (gdp_In _ pcs_X11_tree pc_X11_tree [(1, 21), (1, 22), (1, 23), (2, 0)] rfl (gw_V _ _ _ _)) ggX11_tree_X1_grow
set_option maxRecDepth 20000 in
theorem ggX11_between_X3_isWhole : GoodIn wsX11_between wsX3_isWhole := gdp_In _ pcs_X11_between pc_X11_between [(1, 6), (1, 7), (1, 8), (1, 9), (1, 10), (1, 11), (1, 12), (1, 5), (1, 13), (1, 14), (8, 0), (8, 1), (8, 2), (8, 3), (8, 4), (8, 5), (8, 6)] rfl gw_X3_isWhole
set_option maxRecDepth 20000 in
theorem gX11_between_X3_isWhole : GoodIn wsX11_between (wsV RX11 204 RX3 yX3_isWhole wsX3_isWhole) := goodIn_app (gdp_In _ pcs_X11_between pc_X11_between [(1, 2), (1, 3), (1, 4), (1, 5)] rfl (gw_V _ _ _ _)) ggX11_between_X3_isWhole
set_option maxRecDepth 20000 in
theorem ggX11_between_X3_hasPair : GoodIn wsX11_between wsX3_hasPair := gdp_In _ pcs_X11_between pc_X11_between [(1, 18), (1, 19), (1, 20), (1, 21), (1, 5), (1, 22), (1, 9), (8, 0), (8, 1), (8, 2), (8, 3), (8, 4), (8, 5), (8, 6)] rfl gw_X3_hasPair
set_option maxRecDepth 20000 in
theorem gX11_between_X3_hasPair : GoodIn wsX11_between (wsV RX11 135 RX3 yX3_hasPair wsX3_hasPair) := goodIn_app (gdp_In _ pcs_X11_between pc_X11_between [(1, 15), (1, 16), (1, 17), (1, 5)] rfl (gw_V _ _ _ _)) ggX11_between_X3_hasPair
set_option maxRecDepth 20000 in
theorem ggX11_between_X1_grow : GoodIn wsX11_between wsX1_grow := gdp_In _ pcs_X11_between pc_X11_between [(2, 3), (2, 4), (2, 5), (2, 6), (2, 7), (2, 8), (2, 9), (2, 10), (2, 11), (2, 12), (2, 13), (2, 14), (2, 15), (2, 16), (2, 17), (2, 18), (2, 19), (2, 20), (2, 21), (2, 22), (2, 23), (3, 0), (3, 1), (3, 2), (3, 3), (3, 4), (3, 5), (1, 11), (1, 12), (1, 5), (1, 13), (1, 14), (3, 6), (3, 7), (3, 8), (3, 9), (3, 10), (3, 11), (3, 12), (3, 13), (3, 14), (3, 15), (3, 16), (3, 17), (3, 18), (3, 19), (3, 20), (3, 21), (3, 22), (3, 23), (4, 0), (4, 1), (4, 2), (4, 3), (4, 4), (4, 5), (4, 6), (4, 7), (4, 8), (4, 9), (2, 2), (4, 10), (4, 11), (4, 12), (4, 13), (4, 14), (4, 15), (4, 16), (4, 17), (4, 18), (4, 19), (4, 20), (4, 21), (4, 22), (4, 23), (5, 0), (5, 1), (5, 2), (5, 3), (5, 4), (5, 5), (5, 6), (5, 7), (5, 8), (5, 9), (5, 10), (5, 11), (5, 12), (5, 13), (5, 14), (5, 15), (5, 16), (5, 17), (5, 18), (5, 19), (5, 20), (5, 21), (5, 22), (5, 23), (9, 0), (9, 1), (9, 2), (10, 0), (10, 1), (10, 2), (10, 3), (10, 4), (10, 5), (10, 6), (10, 7), (10, 8), (8, 0), (8, 1), (8, 2), (8, 3), (8, 4), (8, 5), (8, 6)] rfl gw_X1_grow
set_option maxRecDepth 20000 in
theorem gX11_between_X1_grow : GoodIn wsX11_between (wsV RX11 212 RX1 yX1_grow wsX1_grow) := goodIn_app (gdp_In _ pcs_X11_between pc_X11_between [(1, 23), (2, 0), (2, 1), (2, 2)] rfl (gw_V _ _ _ _)) ggX11_between_X1_grow
set_option maxRecDepth 20000 in
theorem ggX11_between_X1_leastOnWay : GoodIn wsX11_between wsX1_leastOnWay := gdp_In _ pcs_X11_between pc_X11_between [(6, 3), (6, 4), (2, 6), (6, 5), (5, 13), (5, 14), (5, 15), (2, 5), (6, 6), (6, 7), (6, 8), (2, 2), (6, 9), (9, 0), (9, 1), (9, 2)] rfl gw_X1_leastOnWay
set_option maxRecDepth 20000 in
theorem gX11_between_X1_leastOnWay : GoodIn wsX11_between (wsV RX11 221 RX1 yX1_leastOnWay wsX1_leastOnWay) := goodIn_app (gdp_In _ pcs_X11_between pc_X11_between [(6, 0), (6, 1), (6, 2), (2, 2)] rfl (gw_V _ _ _ _)) ggX11_between_X1_leastOnWay
set_option maxRecDepth 20000 in
theorem ggX11_least_X3_isWhole : GoodIn wsX11_least wsX3_isWhole := gdp_In _ pcs_X11_least pc_X11_least [(1, 6), (1, 7), (1, 8), (1, 9), (1, 10), (1, 11), (1, 12), (1, 5), (1, 13), (1, 14), (7, 0), (7, 1), (7, 2), (7, 3), (7, 4), (7, 5), (7, 6)] rfl gw_X3_isWhole
set_option maxRecDepth 20000 in
theorem gX11_least_X3_isWhole : GoodIn wsX11_least (wsV RX11 204 RX3 yX3_isWhole wsX3_isWhole) := goodIn_app (gdp_In _ pcs_X11_least pc_X11_least [(1, 2), (1, 3), (1, 4), (1, 5)] rfl (gw_V _ _ _ _)) ggX11_least_X3_isWhole
set_option maxRecDepth 20000 in
theorem ggX11_least_X1_grow : GoodIn wsX11_least wsX1_grow := gdp_In _ pcs_X11_least pc_X11_least [(1, 19), (1, 20), (1, 21), (1, 22), (1, 23), (2, 0), (2, 1), (2, 2), (2, 3), (2, 4), (2, 5), (2, 6), (2, 7), (2, 8), (2, 9), (2, 10), (2, 11), (2, 12), (2, 13), (2, 14), (2, 15), (2, 16), (2, 17), (2, 18), (2, 19), (2, 20), (2, 21), (1, 11), (1, 12), (1, 5), (1, 13), (1, 14), (2, 22), (2, 23), (3, 0), (3, 1), (3, 2), (3, 3), (3, 4), (3, 5), (3, 6), (3, 7), (3, 8), (3, 9), (3, 10), (3, 11), (3, 12), (3, 13), (3, 14), (3, 15), (3, 16), (3, 17), (3, 18), (3, 19), (3, 20), (3, 21), (3, 22), (3, 23), (4, 0), (4, 1), (1, 18), (4, 2), (4, 3), (4, 4), (4, 5), (4, 6), (4, 7), (4, 8), (4, 9), (4, 10), (4, 11), (4, 12), (4, 13), (4, 14), (4, 15), (4, 16), (4, 17), (4, 18), (4, 19), (4, 20), (4, 21), (4, 22), (4, 23), (5, 0), (5, 1), (5, 2), (5, 3), (5, 4), (5, 5), (5, 6), (5, 7), (5, 8), (5, 9), (5, 10), (5, 11), (5, 12), (5, 13), (5, 14), (5, 15), (8, 0), (8, 1), (8, 2), (9, 0), (9, 1), (9, 2), (9, 3), (9, 4), (9, 5), (9, 6), (9, 7), (9, 8), (7, 0), (7, 1), (7, 2), (7, 3), (7, 4), (7, 5), (7, 6)] rfl gw_X1_grow
set_option maxRecDepth 20000 in
theorem gX11_least_X1_grow : GoodIn wsX11_least (wsV RX11 212 RX1 yX1_grow wsX1_grow) := goodIn_app (gdp_In _ pcs_X11_least pc_X11_least [(1, 15), (1, 16), (1, 17), (1, 18)] rfl (gw_V _ _ _ _)) ggX11_least_X1_grow
set_option maxRecDepth 20000 in
theorem ggX11_least_X1_leastNumber : GoodIn wsX11_least wsX1_leastNumber := gdp_In _ pcs_X11_least pc_X11_least [(5, 19), (5, 20), (1, 20), (1, 23), (2, 0), (1, 22), (5, 21), (5, 5), (5, 6), (5, 7), (8, 0), (8, 1), (8, 2), (9, 0), (9, 1), (9, 2), (9, 3), (9, 4), (9, 5), (9, 6), (9, 7), (9, 8), (7, 0), (7, 1), (7, 2), (7, 3), (7, 4), (7, 5), (7, 6)] rfl gw_X1_leastNumber
set_option maxRecDepth 20000 in
theorem gX11_least_X1_leastNumber : GoodIn wsX11_least (wsV RX11 224 RX1 yX1_leastNumber wsX1_leastNumber) := goodIn_app (gdp_In _ pcs_X11_least pc_X11_least [(5, 16), (5, 17), (5, 18), (1, 18)] rfl (gw_V _ _ _ _)) ggX11_least_X1_leastNumber
set_option maxRecDepth 20000 in
theorem ggX11_cuts_X3_isWhole : GoodIn wsX11_cuts wsX3_isWhole := gdp_In _ pcs_X11_cuts pc_X11_cuts [(1, 7), (1, 8), (1, 9), (1, 10), (1, 11), (1, 12), (1, 13), (1, 6), (1, 14), (1, 15), (9, 0), (9, 1), (9, 2), (9, 3), (9, 4), (9, 5), (9, 6)] rfl gw_X3_isWhole
end
