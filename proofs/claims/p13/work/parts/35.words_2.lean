set_option maxRecDepth 20000 in
theorem gX11_cuts_X3_isWhole : GoodIn wsX11_cuts (wsV RX11 204 RX3 yX3_isWhole wsX3_isWhole) := goodIn_app (gdp_In _ pcs_X11_cuts pc_X11_cuts [(1, 3), (1, 4), (1, 5), (1, 6)] rfl (gw_V _ _ _ _)) ggX11_cuts_X3_isWhole
set_option maxRecDepth 20000 in
theorem ggX11_cuts_X1_grow : GoodIn wsX11_cuts wsX1_grow := gdp_In _ pcs_X11_cuts pc_X11_cuts [(1, 20), (1, 21), (1, 22), (1, 23), (2, 0), (2, 1), (2, 2), (2, 3), (2, 4), (2, 5), (2, 6), (2, 7), (2, 8), (2, 9), (2, 10), (2, 11), (2, 12), (2, 13), (2, 14), (2, 15), (2, 16), (2, 17), (2, 18), (2, 19), (2, 20), (2, 21), (2, 22), (1, 12), (1, 13), (1, 6), (1, 14), (1, 15), (2, 23), (3, 0), (3, 1), (3, 2), (3, 3), (3, 4), (3, 5), (3, 6), (3, 7), (3, 8), (3, 9), (3, 10), (3, 11), (3, 12), (3, 13), (3, 14), (3, 15), (3, 16), (3, 17), (3, 18), (3, 19), (3, 20), (3, 21), (3, 22), (3, 23), (4, 0), (4, 1), (4, 2), (1, 19), (4, 3), (4, 4), (4, 5), (4, 6), (4, 7), (4, 8), (4, 9), (4, 10), (4, 11), (4, 12), (4, 13), (4, 14), (4, 15), (4, 16), (4, 17), (4, 18), (4, 19), (4, 20), (4, 21), (4, 22), (4, 23), (5, 0), (5, 1), (5, 2), (5, 3), (5, 4), (5, 5), (5, 6), (5, 7), (5, 8), (5, 9), (5, 10), (5, 11), (5, 12), (5, 13), (5, 14), (5, 15), (5, 16), (10, 0), (10, 1), (10, 2), (11, 0), (11, 1), (11, 2), (11, 3), (11, 4), (11, 5), (11, 6), (11, 7), (11, 8), (9, 0), (9, 1), (9, 2), (9, 3), (9, 4), (9, 5), (9, 6)] rfl gw_X1_grow
set_option maxRecDepth 20000 in
theorem gX11_cuts_X1_grow : GoodIn wsX11_cuts (wsV RX11 212 RX1 yX1_grow wsX1_grow) := goodIn_app (gdp_In _ pcs_X11_cuts pc_X11_cuts [(1, 16), (1, 17), (1, 18), (1, 19)] rfl (gw_V _ _ _ _)) ggX11_cuts_X1_grow
set_option maxRecDepth 20000 in
theorem ggX11_cuts_X1_leastNumber : GoodIn wsX11_cuts wsX1_leastNumber := gdp_In _ pcs_X11_cuts pc_X11_cuts [(5, 20), (5, 21), (1, 21), (2, 0), (2, 1), (1, 23), (5, 22), (5, 6), (5, 7), (5, 8), (10, 0), (10, 1), (10, 2), (11, 0), (11, 1), (11, 2), (11, 3), (11, 4), (11, 5), (11, 6), (11, 7), (11, 8), (9, 0), (9, 1), (9, 2), (9, 3), (9, 4), (9, 5), (9, 6)] rfl gw_X1_leastNumber
set_option maxRecDepth 20000 in
theorem gX11_cuts_X1_leastNumber : GoodIn wsX11_cuts (wsV RX11 224 RX1 yX1_leastNumber wsX1_leastNumber) := goodIn_app (gdp_In _ pcs_X11_cuts pc_X11_cuts [(5, 17), (5, 18), (5, 19), (1, 19)] rfl (gw_V _ _ _ _)) ggX11_cuts_X1_leastNumber
set_option maxRecDepth 20000 in
theorem ggX11_cuts_X7_countCuts : GoodIn wsX11_cuts wsX7_countCuts := gdp_In _ pcs_X11_cuts pc_X11_cuts [(6, 3), (6, 4), (6, 5), (6, 6), (6, 7), (6, 8), (6, 2), (6, 9), (6, 10), (6, 11), (6, 12), (6, 13), (6, 14), (6, 15), (6, 16), (6, 17), (6, 18), (6, 19), (6, 20), (6, 21), (6, 22), (6, 23), (7, 0), (7, 1), (7, 2), (7, 3), (7, 4), (7, 5), (7, 6), (7, 7), (7, 8), (7, 9), (7, 10), (12, 0), (12, 1), (12, 2), (12, 3), (12, 4), (12, 5), (12, 6), (12, 7), (12, 8), (11, 0), (11, 1), (11, 2), (11, 3), (11, 4), (11, 5), (11, 6), (11, 7), (11, 8), (9, 0), (9, 1), (9, 2), (9, 3), (9, 4), (9, 5), (9, 6)] rfl gw_X7_countCuts
set_option maxRecDepth 20000 in
theorem gX11_cuts_X7_countCuts : GoodIn wsX11_cuts (wsV RX11 182 RX7 yX7_countCuts wsX7_countCuts) := goodIn_app (gdp_In _ pcs_X11_cuts pc_X11_cuts [(5, 23), (6, 0), (6, 1), (6, 2)] rfl (gw_V _ _ _ _)) ggX11_cuts_X7_countCuts
set_option maxRecDepth 20000 in
theorem ggX11_cutAt_X3_isWhole : GoodIn wsX11_cutAt wsX3_isWhole := gdp_In _ pcs_X11_cutAt pc_X11_cutAt [(1, 7), (1, 8), (1, 9), (1, 10), (1, 11), (1, 12), (1, 13), (1, 6), (1, 14), (1, 15), (9, 0), (9, 1), (9, 2), (9, 3), (9, 4), (9, 5), (9, 6)] rfl gw_X3_isWhole
set_option maxRecDepth 20000 in
theorem gX11_cutAt_X3_isWhole : GoodIn wsX11_cutAt (wsV RX11 204 RX3 yX3_isWhole wsX3_isWhole) := goodIn_app (gdp_In _ pcs_X11_cutAt pc_X11_cutAt [(1, 3), (1, 4), (1, 5), (1, 6)] rfl (gw_V _ _ _ _)) ggX11_cutAt_X3_isWhole
set_option maxRecDepth 20000 in
theorem ggX11_cutAt_X1_grow : GoodIn wsX11_cutAt wsX1_grow := gdp_In _ pcs_X11_cutAt pc_X11_cutAt [(1, 20), (1, 21), (1, 22), (1, 23), (2, 0), (2, 1), (2, 2), (2, 3), (2, 4), (2, 5), (2, 6), (2, 7), (2, 8), (2, 9), (2, 10), (2, 11), (2, 12), (2, 13), (2, 14), (2, 15), (2, 16), (2, 17), (2, 18), (2, 19), (2, 20), (2, 21), (2, 22), (1, 12), (1, 13), (1, 6), (1, 14), (1, 15), (2, 23), (3, 0), (3, 1), (3, 2), (3, 3), (3, 4), (3, 5), (3, 6), (3, 7), (3, 8), (3, 9), (3, 10), (3, 11), (3, 12), (3, 13), (3, 14), (3, 15), (3, 16), (3, 17), (3, 18), (3, 19), (3, 20), (3, 21), (3, 22), (3, 23), (4, 0), (4, 1), (4, 2), (1, 19), (4, 3), (4, 4), (4, 5), (4, 6), (4, 7), (4, 8), (4, 9), (4, 10), (4, 11), (4, 12), (4, 13), (4, 14), (4, 15), (4, 16), (4, 17), (4, 18), (4, 19), (4, 20), (4, 21), (4, 22), (4, 23), (5, 0), (5, 1), (5, 2), (5, 3), (5, 4), (5, 5), (5, 6), (5, 7), (5, 8), (5, 9), (5, 10), (5, 11), (5, 12), (5, 13), (5, 14), (5, 15), (5, 16), (10, 0), (10, 1), (10, 2), (11, 0), (11, 1), (11, 2), (11, 3), (11, 4), (11, 5), (11, 6), (11, 7), (11, 8), (9, 0), (9, 1), (9, 2), (9, 3), (9, 4), (9, 5), (9, 6)] rfl gw_X1_grow
set_option maxRecDepth 20000 in
theorem gX11_cutAt_X1_grow : GoodIn wsX11_cutAt (wsV RX11 212 RX1 yX1_grow wsX1_grow) := goodIn_app (gdp_In _ pcs_X11_cutAt pc_X11_cutAt [(1, 16), (1, 17), (1, 18), (1, 19)] rfl (gw_V _ _ _ _)) ggX11_cutAt_X1_grow
set_option maxRecDepth 20000 in
theorem ggX11_cutAt_X1_leastNumber : GoodIn wsX11_cutAt wsX1_leastNumber := gdp_In _ pcs_X11_cutAt pc_X11_cutAt [(5, 20), (5, 21), (1, 21), (2, 0), (2, 1), (1, 23), (5, 22), (5, 6), (5, 7), (5, 8), (10, 0), (10, 1), (10, 2), (11, 0), (11, 1), (11, 2), (11, 3), (11, 4), (11, 5), (11, 6), (11, 7), (11, 8), (9, 0), (9, 1), (9, 2), (9, 3), (9, 4), (9, 5), (9, 6)] rfl gw_X1_leastNumber
set_option maxRecDepth 20000 in
theorem gX11_cutAt_X1_leastNumber : GoodIn wsX11_cutAt (wsV RX11 224 RX1 yX1_leastNumber wsX1_leastNumber) := goodIn_app (gdp_In _ pcs_X11_cutAt pc_X11_cutAt [(5, 17), (5, 18), (5, 19), (1, 19)] rfl (gw_V _ _ _ _)) ggX11_cutAt_X1_leastNumber
set_option maxRecDepth 20000 in
theorem ggX11_cutAt_X7_findCut : GoodIn wsX11_cutAt wsX7_findCut := gdp_In _ pcs_X11_cutAt pc_X11_cutAt [(6, 3), (6, 4), (6, 5), (6, 6), (6, 7), (6, 2), (6, 8), (6, 9), (6, 10), (6, 11), (6, 12), (6, 13), (6, 14), (6, 15), (6, 16), (6, 17), (6, 18), (6, 19), (6, 20), (6, 21), (6, 22), (6, 23), (7, 0), (7, 1), (7, 2), (7, 3), (7, 4), (7, 5), (7, 6), (7, 7), (7, 8), (7, 9), (12, 0), (12, 1), (12, 2), (12, 3), (12, 4), (12, 5), (12, 6), (12, 7), (12, 8), (11, 0), (11, 1), (11, 2), (11, 3), (11, 4), (11, 5), (11, 6), (11, 7), (11, 8), (9, 0), (9, 1), (9, 2), (9, 3), (9, 4), (9, 5), (9, 6)] rfl gw_X7_findCut
set_option maxRecDepth 20000 in
theorem gX11_cutAt_X7_findCut : GoodIn wsX11_cutAt (wsV RX11 186 RX7 yX7_findCut wsX7_findCut) := goodIn_app (gdp_In _ pcs_X11_cutAt pc_X11_cutAt [(5, 23), (6, 0), (6, 1), (6, 2)] rfl (gw_V _ _ _ _)) ggX11_cutAt_X7_findCut
set_option maxRecDepth 20000 in
theorem ggX11_weak_X3_hasLine : GoodIn wsX11_weak wsX3_hasLine := gdp_In _ pcs_X11_weak pc_X11_weak [(1, 8), (1, 9), (8, 0), (8, 1), (8, 2), (8, 3), (8, 4), (8, 5), (8, 6)] rfl gw_X3_hasLine
set_option maxRecDepth 20000 in
theorem gX11_weak_X3_hasLine : GoodIn wsX11_weak (wsV RX11 112 RX3 yX3_hasLine wsX3_hasLine) := goodIn_app (gdp_In _ pcs_X11_weak pc_X11_weak [(1, 4), (1, 5), (1, 6), (1, 7)] rfl (gw_V _ _ _ _)) ggX11_weak_X3_hasLine
set_option maxRecDepth 20000 in
theorem ggX11_weak_X3_isWhole : GoodIn wsX11_weak wsX3_isWhole := gdp_In _ pcs_X11_weak pc_X11_weak [(1, 13), (1, 9), (1, 14), (1, 15), (1, 16), (1, 17), (1, 18), (1, 7), (1, 19), (1, 20), (8, 0), (8, 1), (8, 2), (8, 3), (8, 4), (8, 5), (8, 6)] rfl gw_X3_isWhole
set_option maxRecDepth 20000 in
theorem gX11_weak_X3_isWhole : GoodIn wsX11_weak (wsV RX11 204 RX3 yX3_isWhole wsX3_isWhole) := goodIn_app (gdp_In _ pcs_X11_weak pc_X11_weak [(1, 10), (1, 11), (1, 12), (1, 7)] rfl (gw_V _ _ _ _)) ggX11_weak_X3_isWhole
set_option maxRecDepth 20000 in
theorem ggX11_weak_X3_isMissing : GoodIn wsX11_weak wsX3_isMissing := gdp_In _ pcs_X11_weak pc_X11_weak [(1, 19), (1, 20), (8, 0), (8, 1), (8, 2), (8, 3), (8, 4), (8, 5), (8, 6)] rfl gw_X3_isMissing
set_option maxRecDepth 20000 in
theorem gX11_weak_X3_isMissing : GoodIn wsX11_weak (wsV RX11 126 RX3 yX3_isMissing wsX3_isMissing) := goodIn_app (gdp_In _ pcs_X11_weak pc_X11_weak [(1, 21), (1, 17), (1, 18), (1, 7)] rfl (gw_V _ _ _ _)) ggX11_weak_X3_isMissing
set_option maxRecDepth 20000 in
theorem ggX11_weak_X1_grow : GoodIn wsX11_weak wsX1_grow := gdp_In _ pcs_X11_weak pc_X11_weak [(2, 2), (2, 3), (2, 4), (2, 5), (2, 6), (2, 7), (2, 8), (2, 9), (2, 10), (2, 11), (2, 12), (2, 13), (2, 14), (2, 15), (2, 16), (2, 17), (2, 18), (2, 19), (2, 20), (2, 21), (2, 22), (2, 23), (3, 0), (3, 1), (3, 2), (3, 3), (3, 4), (1, 17), (1, 18), (1, 7), (1, 19), (1, 20), (3, 5), (3, 6), (3, 7), (3, 8), (3, 9), (3, 10), (3, 11), (3, 12), (3, 13), (3, 14), (3, 15), (3, 16), (3, 17), (3, 18), (3, 19), (3, 20), (3, 21), (3, 22), (3, 23), (4, 0), (4, 1), (4, 2), (4, 3), (4, 4), (4, 5), (4, 6), (4, 7), (4, 8), (2, 1), (4, 9), (4, 10), (4, 11), (4, 12), (4, 13), (4, 14), (4, 15), (4, 16), (4, 17), (4, 18), (4, 19), (4, 20), (4, 21), (4, 22), (4, 23), (5, 0), (5, 1), (5, 2), (5, 3), (5, 4), (5, 5), (5, 6), (5, 7), (5, 8), (5, 9), (5, 10), (5, 11), (5, 12), (5, 13), (5, 14), (5, 15), (5, 16), (5, 17), (5, 18), (5, 19), (5, 20), (5, 21), (5, 22), (9, 0), (9, 1), (9, 2), (10, 0), (10, 1), (10, 2), (10, 3), (10, 4), (10, 5), (10, 6), (10, 7), (10, 8), (8, 0), (8, 1), (8, 2), (8, 3), (8, 4), (8, 5), (8, 6)] rfl gw_X1_grow
set_option maxRecDepth 20000 in
theorem gX11_weak_X1_grow : GoodIn wsX11_weak (wsV RX11 212 RX1 yX1_grow wsX1_grow) := goodIn_app (gdp_In _ pcs_X11_weak pc_X11_weak [(1, 22), (1, 23), (2, 0), (2, 1)] rfl (gw_V _ _ _ _)) ggX11_weak_X1_grow
set_option maxRecDepth 20000 in
theorem ggX11_weak_X1_leastOnWay : GoodIn wsX11_weak wsX1_leastOnWay := gdp_In _ pcs_X11_weak pc_X11_weak [(6, 2), (6, 3), (2, 5), (6, 4), (5, 12), (5, 13), (5, 14), (2, 4), (6, 5), (6, 6), (6, 7), (2, 1), (6, 8), (9, 0), (9, 1), (9, 2)] rfl gw_X1_leastOnWay
set_option maxRecDepth 20000 in
theorem gX11_weak_X1_leastOnWay : GoodIn wsX11_weak (wsV RX11 221 RX1 yX1_leastOnWay wsX1_leastOnWay) := goodIn_app (gdp_In _ pcs_X11_weak pc_X11_weak [(5, 23), (6, 0), (6, 1), (2, 1)] rfl (gw_V _ _ _ _)) ggX11_weak_X1_leastOnWay
set_option maxRecDepth 20000 in
theorem ggX11_weak_X1_leastNumber : GoodIn wsX11_weak wsX1_leastNumber := gdp_In _ pcs_X11_weak pc_X11_weak [(6, 12), (6, 3), (2, 3), (2, 6), (2, 7), (2, 5), (6, 4), (5, 12), (5, 13), (5, 14), (9, 0), (9, 1), (9, 2), (10, 0), (10, 1), (10, 2), (10, 3), (10, 4), (10, 5), (10, 6), (10, 7), (10, 8), (8, 0), (8, 1), (8, 2), (8, 3), (8, 4), (8, 5), (8, 6)] rfl gw_X1_leastNumber
set_option maxRecDepth 20000 in
theorem gX11_weak_X1_leastNumber : GoodIn wsX11_weak (wsV RX11 224 RX1 yX1_leastNumber wsX1_leastNumber) := goodIn_app (gdp_In _ pcs_X11_weak pc_X11_weak [(6, 9), (6, 10), (6, 11), (2, 1)] rfl (gw_V _ _ _ _)) ggX11_weak_X1_leastNumber
set_option maxRecDepth 20000 in
theorem ggX11_part_X3_isWhole : GoodIn wsX11_part wsX3_isWhole := gdp_In _ pcs_X11_part pc_X11_part [(1, 7), (1, 8), (1, 9), (1, 10), (1, 11), (1, 12), (1, 13), (1, 6), (1, 14), (1, 15), (8, 0), (8, 1), (8, 2), (8, 3), (8, 4), (8, 5), (8, 6)] rfl gw_X3_isWhole
set_option maxRecDepth 20000 in
theorem gX11_part_X3_isWhole : GoodIn wsX11_part (wsV RX11 204 RX3 yX3_isWhole wsX3_isWhole) := goodIn_app (gdp_In _ pcs_X11_part pc_X11_part [(1, 3), (1, 4), (1, 5), (1, 6)] rfl (gw_V _ _ _ _)) ggX11_part_X3_isWhole
set_option maxRecDepth 20000 in
theorem ggX11_part_X3_hasPlace : GoodIn wsX11_part wsX3_hasPlace := gdp_In _ pcs_X11_part pc_X11_part [(1, 19), (1, 10), (8, 0), (8, 1), (8, 2), (8, 3), (8, 4), (8, 5), (8, 6)] rfl gw_X3_hasPlace
set_option maxRecDepth 20000 in
theorem gX11_part_X3_hasPlace : GoodIn wsX11_part (wsV RX11 208 RX3 yX3_hasPlace wsX3_hasPlace) := goodIn_app (gdp_In _ pcs_X11_part pc_X11_part [(1, 16), (1, 17), (1, 18), (1, 6)] rfl (gw_V _ _ _ _)) ggX11_part_X3_hasPlace
set_option maxRecDepth 20000 in
theorem ggX11_part_X1_grow : GoodIn wsX11_part wsX1_grow := gdp_In _ pcs_X11_part pc_X11_part [(2, 0), (2, 1), (2, 2), (2, 3), (2, 4), (2, 5), (2, 6), (2, 7), (2, 8), (2, 9), (2, 10), (2, 11), (2, 12), (2, 13), (2, 14), (2, 15), (2, 16), (2, 17), (2, 18), (2, 19), (2, 20), (2, 21), (2, 22), (2, 23), (3, 0), (3, 1), (3, 2), (1, 12), (1, 13), (1, 6), (1, 14), (1, 15), (3, 3), (3, 4), (3, 5), (3, 6), (3, 7), (3, 8), (3, 9), (3, 10), (3, 11), (3, 12), (3, 13), (3, 14), (3, 15), (3, 16), (3, 17), (3, 18), (3, 19), (3, 20), (3, 21), (3, 22), (3, 23), (4, 0), (4, 1), (4, 2), (4, 3), (4, 4), (4, 5), (4, 6), (1, 23), (4, 7), (4, 8), (4, 9), (4, 10), (4, 11), (4, 12), (4, 13), (4, 14), (4, 15), (4, 16), (4, 17), (4, 18), (4, 19), (4, 20), (4, 21), (4, 22), (4, 23), (5, 0), (5, 1), (5, 2), (5, 3), (5, 4), (5, 5), (5, 6), (5, 7), (5, 8), (5, 9), (5, 10), (5, 11), (5, 12), (5, 13), (5, 14), (5, 15), (5, 16), (5, 17), (5, 18), (5, 19), (5, 20), (9, 0), (9, 1), (9, 2), (10, 0), (10, 1), (10, 2), (10, 3), (10, 4), (10, 5), (10, 6), (10, 7), (10, 8), (8, 0), (8, 1), (8, 2), (8, 3), (8, 4), (8, 5), (8, 6)] rfl gw_X1_grow
set_option maxRecDepth 20000 in
theorem gX11_part_X1_grow : GoodIn wsX11_part (wsV RX11 212 RX1 yX1_grow wsX1_grow) := goodIn_app (gdp_In _ pcs_X11_part pc_X11_part [(1, 20), (1, 21), (1, 22), (1, 23)] rfl (gw_V _ _ _ _)) ggX11_part_X1_grow
set_option maxRecDepth 20000 in
theorem ggX11_part_X1_partsBelow : GoodIn wsX11_part wsX1_partsBelow := gdp_In _ pcs_X11_part pc_X11_part [(6, 0), (6, 1), (6, 2), (6, 3), (1, 23), (6, 4), (6, 5), (6, 6), (6, 7), (6, 8), (6, 9), (2, 3), (6, 10), (5, 10), (5, 11), (5, 12), (2, 2), (6, 11), (6, 12), (6, 13), (6, 14), (9, 0), (9, 1), (9, 2)] rfl gw_X1_partsBelow
set_option maxRecDepth 20000 in
theorem gX11_part_X1_partsBelow : GoodIn wsX11_part (wsV RX11 227 RX1 yX1_partsBelow wsX1_partsBelow) := goodIn_app (gdp_In _ pcs_X11_part pc_X11_part [(5, 21), (5, 22), (5, 23), (1, 23)] rfl (gw_V _ _ _ _)) ggX11_part_X1_partsBelow
set_option maxRecDepth 20000 in
theorem ggX11_part_X1_leastAlike : GoodIn wsX11_part wsX1_leastAlike := gdp_In _ pcs_X11_part pc_X11_part [(6, 4), (6, 5), (6, 6), (6, 7), (1, 23), (6, 8), (6, 9), (2, 3), (6, 10), (5, 10), (5, 11), (5, 12), (2, 2), (6, 11), (6, 12), (6, 13), (6, 14), (9, 0), (9, 1), (9, 2)] rfl gw_X1_leastAlike
set_option maxRecDepth 20000 in
theorem gX11_part_X1_leastAlike : GoodIn wsX11_part (wsV RX11 230 RX1 yX1_leastAlike wsX1_leastAlike) := goodIn_app (gdp_In _ pcs_X11_part pc_X11_part [(6, 15), (6, 2), (6, 3), (1, 23)] rfl (gw_V _ _ _ _)) ggX11_part_X1_leastAlike
set_option maxRecDepth 20000 in
theorem ggX11_dense_X3_isWhole : GoodIn wsX11_dense wsX3_isWhole := gdp_In _ pcs_X11_dense pc_X11_dense [(1, 9), (1, 10), (1, 11), (1, 12), (1, 13), (1, 14), (1, 15), (1, 8), (1, 16), (1, 17), (7, 0), (7, 1), (7, 2), (7, 3), (7, 4), (7, 5), (7, 6)] rfl gw_X3_isWhole
set_option maxRecDepth 20000 in
theorem gX11_dense_X3_isWhole : GoodIn wsX11_dense (wsV RX11 204 RX3 yX3_isWhole wsX3_isWhole) := goodIn_app (gdp_In _ pcs_X11_dense pc_X11_dense [(1, 5), (1, 6), (1, 7), (1, 8)] rfl (gw_V _ _ _ _)) ggX11_dense_X3_isWhole
set_option maxRecDepth 20000 in
theorem ggX11_dense_X0_load : GoodIn wsX11_dense wsX0_load := gdp_In _ pcs_X11_dense pc_X11_dense [(1, 22), (1, 23), (2, 0), (2, 1), (2, 2), (2, 3), (2, 4), (2, 5), (2, 6), (2, 7), (2, 8), (2, 9), (2, 10), (2, 11), (2, 12), (2, 13), (2, 14), (1, 14), (1, 15), (1, 8), (1, 16), (1, 17), (2, 15), (2, 16), (2, 17), (2, 18), (2, 19), (2, 20), (2, 21), (2, 22), (2, 23), (3, 0), (3, 1), (3, 2), (3, 3), (3, 4), (3, 5), (3, 6), (3, 7), (3, 8), (3, 9), (3, 10), (3, 11), (3, 12), (1, 21), (3, 13), (3, 14), (8, 0), (8, 1), (8, 2), (8, 3), (8, 4), (8, 5), (8, 6), (8, 7), (8, 8), (7, 0), (7, 1), (7, 2), (7, 3), (7, 4), (7, 5), (7, 6)] rfl gw_X0_load
set_option maxRecDepth 20000 in
theorem gX11_dense_X0_load : GoodIn wsX11_dense (wsV RX11 190 RX0 yX0_load wsX0_load) := goodIn_app (gdp_In _ pcs_X11_dense pc_X11_dense [(1, 18), (1, 19), (1, 20), (1, 21)] rfl (gw_V _ _ _ _)) ggX11_dense_X0_load
set_option maxRecDepth 20000 in
theorem ggX11_dense_X7_findDensest : GoodIn wsX11_dense wsX7_findDensest := gdp_In _ pcs_X11_dense pc_X11_dense [(3, 19), (3, 20), (3, 21), (3, 22), (3, 23), (4, 0), (4, 1), (4, 2), (4, 3), (3, 18), (4, 4), (4, 5), (4, 6), (4, 7), (4, 8), (4, 9), (4, 10), (4, 11), (4, 12), (4, 13), (4, 14), (4, 15), (4, 16), (4, 17), (4, 18), (4, 19), (4, 20), (6, 0), (6, 1), (6, 2), (6, 3), (6, 4), (6, 5), (6, 6), (6, 7), (6, 8), (8, 0), (8, 1), (8, 2), (8, 3), (8, 4), (8, 5), (8, 6), (8, 7), (8, 8), (7, 0), (7, 1), (7, 2), (7, 3), (7, 4), (7, 5), (7, 6)] rfl gw_X7_findDensest
set_option maxRecDepth 20000 in
theorem gX11_dense_X7_findDensest : GoodIn wsX11_dense (wsV RX11 233 RX7 yX7_findDensest wsX7_findDensest) := goodIn_app (gdp_In _ pcs_X11_dense pc_X11_dense [(3, 15), (3, 16), (3, 17), (3, 18)] rfl (gw_V _ _ _ _)) ggX11_dense_X7_findDensest
set_option maxRecDepth 20000 in
theorem ggX11_dense_J6_bitCount_0f7a4 : GoodIn wsX11_dense wsJ6_bitCount_0f7a4 := gdp_In _ pcs_X11_dense pc_X11_dense [(4, 12), (4, 13), (4, 14), (4, 15)] rfl gw_J6_bitCount_0f7a4
set_option maxRecDepth 20000 in
theorem gX11_dense_J6_bitCount_0f7a4 : GoodIn wsX11_dense (va_wsS RX11 242 yJ6_bitCount_0f7a4 wsJ6_bitCount_0f7a4) := goodIn_app (gdp_In _ pcs_X11_dense pc_X11_dense [(4, 21), (4, 10), (4, 11)] rfl (gw_S _ _ _)) ggX11_dense_J6_bitCount_0f7a4
set_option maxRecDepth 20000 in
theorem ggX11_map_X11_mapRefusal : GoodIn wsX11_map wsX11_mapRefusal := goodIn_r _ [6, 7, 8, 5, 9, 10, 11, 12] rfl gw_X11_mapRefusal
set_option maxRecDepth 20000 in
theorem gX11_map_X11_mapRefusal : GoodIn wsX11_map (va_wsS RX11 247 yX11_mapRefusal wsX11_mapRefusal) := goodIn_app (goodIn_r _ [3, 4, 5] rfl (gw_S _ _ _)) ggX11_map_X11_mapRefusal
set_option maxRecDepth 20000 in
theorem ggX11_map_X4_begin : GoodIn wsX11_map wsX4_begin := goodIn_r _ [17, 18, 19, 20, 21, 22, 23, 24, 37, 38, 39, 40] rfl gw_X4_begin
set_option maxRecDepth 20000 in
theorem gX11_map_X4_begin : GoodIn wsX11_map (wsV RX11 250 RX4 yX4_begin wsX4_begin) := goodIn_app (goodIn_r _ [13, 14, 15, 16] rfl (gw_V _ _ _ _)) ggX11_map_X4_begin
set_option maxRecDepth 20000 in
theorem ggX11_row_X11_rowRefusal : GoodIn wsX11_row wsX11_rowRefusal := gdp_In _ pcs_X11_row pc_X11_row [(1, 6), (1, 1), (1, 7), (1, 8), (1, 5), (1, 9), (1, 10), (1, 11), (1, 12), (1, 13), (1, 14), (1, 15), (1, 16), (1, 17), (1, 18), (1, 19), (3, 0), (3, 1), (3, 2), (3, 3), (3, 4), (3, 5), (3, 6), (3, 7), (3, 8), (3, 9), (3, 10), (3, 11), (4, 0), (4, 1), (4, 2), (4, 3)] rfl gw_X11_rowRefusal
set_option maxRecDepth 20000 in
theorem gX11_row_X11_rowRefusal : GoodIn wsX11_row (wsV RX11 254 RX11 yX11_rowRefusal wsX11_rowRefusal) := goodIn_app (gdp_In _ pcs_X11_row pc_X11_row [(1, 2), (1, 3), (1, 4), (1, 5)] rfl (gw_V _ _ _ _)) ggX11_row_X11_rowRefusal
set_option maxRecDepth 20000 in
theorem ggX11_row_X4_beginRow : GoodIn wsX11_row wsX4_beginRow := gdp_In _ pcs_X11_row pc_X11_row [(1, 23), (2, 0), (2, 1), (4, 0), (4, 1), (4, 2), (4, 3)] rfl gw_X4_beginRow
set_option maxRecDepth 20000 in
theorem gX11_row_X4_beginRow : GoodIn wsX11_row (wsV RX11 257 RX4 yX4_beginRow wsX4_beginRow) := goodIn_app (gdp_In _ pcs_X11_row pc_X11_row [(1, 20), (1, 21), (1, 22), (1, 13)] rfl (gw_V _ _ _ _)) ggX11_row_X4_beginRow
set_option maxRecDepth 20000 in
theorem ggX11_put_X11_numberRefusal : GoodIn wsX11_put wsX11_numberRefusal := gdp_In _ pcs_X11_put pc_X11_put [(1, 6), (1, 1), (1, 7), (1, 8), (1, 9), (1, 10), (1, 5), (1, 11), (1, 12), (1, 13), (1, 14), (1, 15), (1, 16), (1, 17), (1, 18), (1, 19), (1, 20), (1, 21), (1, 22), (1, 23), (2, 0), (3, 0), (3, 1), (3, 2), (3, 3), (3, 4), (3, 5), (3, 6), (3, 7), (3, 8), (3, 9), (3, 10), (3, 11), (4, 0), (4, 1), (4, 2), (4, 3)] rfl gw_X11_numberRefusal
set_option maxRecDepth 20000 in
theorem gX11_put_X11_numberRefusal : GoodIn wsX11_put (wsV RX11 260 RX11 yX11_numberRefusal wsX11_numberRefusal) := goodIn_app (gdp_In _ pcs_X11_put pc_X11_put [(1, 2), (1, 3), (1, 4), (1, 5)] rfl (gw_V _ _ _ _)) ggX11_put_X11_numberRefusal
set_option maxRecDepth 20000 in
theorem ggX11_put_X4_store : GoodIn wsX11_put wsX4_store := gdp_In _ pcs_X11_put pc_X11_put [(2, 4), (2, 5), (2, 6), (4, 0), (4, 1), (4, 2), (4, 3)] rfl gw_X4_store
set_option maxRecDepth 20000 in
theorem gX11_put_X4_store : GoodIn wsX11_put (wsV RX11 263 RX4 yX4_store wsX4_store) := goodIn_app (gdp_In _ pcs_X11_put pc_X11_put [(2, 1), (2, 2), (2, 3), (1, 18)] rfl (gw_V _ _ _ _)) ggX11_put_X4_store
set_option maxRecDepth 20000 in
theorem ggX11_copy_X11_isMapNumber : GoodIn wsX11_copy wsX11_isMapNumber := gdp_In _ pcs_X11_copy pc_X11_copy [(1, 5)] rfl gw_X11_isMapNumber
set_option maxRecDepth 20000 in
theorem gX11_copy_X11_isMapNumber : GoodIn wsX11_copy (va_wsS RX11 267 yX11_isMapNumber wsX11_isMapNumber) := goodIn_app (gdp_In _ pcs_X11_copy pc_X11_copy [(1, 2), (1, 3), (1, 4)] rfl (gw_S _ _ _)) ggX11_copy_X11_isMapNumber
set_option maxRecDepth 20000 in
theorem ggX11_copy_X4_moveRefusal : GoodIn wsX11_copy wsX4_moveRefusal := gdp_In _ pcs_X11_copy pc_X11_copy [(1, 10), (1, 11), (1, 12), (1, 13), (1, 14), (1, 9), (1, 15), (1, 16), (1, 17), (1, 18), (1, 19), (1, 20), (1, 21), (1, 22), (1, 23), (2, 0), (4, 0), (4, 1), (4, 2), (4, 3)] rfl gw_X4_moveRefusal
set_option maxRecDepth 20000 in
theorem gX11_copy_X4_moveRefusal : GoodIn wsX11_copy (wsV RX11 270 RX4 yX4_moveRefusal wsX4_moveRefusal) := goodIn_app (gdp_In _ pcs_X11_copy pc_X11_copy [(1, 6), (1, 7), (1, 8), (1, 9)] rfl (gw_V _ _ _ _)) ggX11_copy_X4_moveRefusal
set_option maxRecDepth 20000 in
theorem ggX11_copy_X4_move : GoodIn wsX11_copy wsX4_move := gdp_In _ pcs_X11_copy pc_X11_copy [(2, 4), (2, 5), (2, 6), (2, 7), (2, 8), (2, 9), (4, 0), (4, 1), (4, 2), (4, 3)] rfl gw_X4_move
set_option maxRecDepth 20000 in
theorem gX11_copy_X4_move : GoodIn wsX11_copy (wsV RX11 273 RX4 yX4_move wsX4_move) := goodIn_app (gdp_In _ pcs_X11_copy pc_X11_copy [(2, 1), (2, 2), (2, 3), (1, 9)] rfl (gw_V _ _ _ _)) ggX11_copy_X4_move
set_option maxRecDepth 20000 in
theorem ggX11_item_X11_numberRefusal : GoodIn wsX11_item wsX11_numberRefusal := gdp_In _ pcs_X11_item pc_X11_item [(1, 6), (1, 1), (1, 7), (1, 8), (1, 9), (1, 10), (1, 5), (1, 11), (1, 12), (1, 13), (1, 14), (1, 15), (1, 16), (1, 17), (1, 18), (1, 19), (1, 20), (1, 21), (1, 22), (1, 23), (2, 0), (3, 0), (3, 1), (3, 2), (3, 3), (3, 4), (3, 5), (3, 6), (3, 7), (3, 8), (3, 9), (3, 10), (3, 11), (4, 0), (4, 1), (4, 2), (4, 3)] rfl gw_X11_numberRefusal
set_option maxRecDepth 20000 in
theorem gX11_item_X11_numberRefusal : GoodIn wsX11_item (wsV RX11 260 RX11 yX11_numberRefusal wsX11_numberRefusal) := goodIn_app (gdp_In _ pcs_X11_item pc_X11_item [(1, 2), (1, 3), (1, 4), (1, 5)] rfl (gw_V _ _ _ _)) ggX11_item_X11_numberRefusal
set_option maxRecDepth 20000 in
theorem ggX11_item_X4_number : GoodIn wsX11_item wsX4_number := gdp_In _ pcs_X11_item pc_X11_item [(2, 4), (2, 5), (4, 0), (4, 1), (4, 2), (4, 3)] rfl gw_X4_number
set_option maxRecDepth 20000 in
theorem gX11_item_X4_number : GoodIn wsX11_item (wsV RX11 277 RX4 yX4_number wsX4_number) := goodIn_app (gdp_In _ pcs_X11_item pc_X11_item [(2, 1), (2, 2), (2, 3), (1, 18)] rfl (gw_V _ _ _ _)) ggX11_item_X4_number
set_option maxRecDepth 20000 in
theorem ggX11_read_X11_isMapNumber : GoodIn wsX11_read wsX11_isMapNumber := gdp_In _ pcs_X11_read pc_X11_read [(1, 6)] rfl gw_X11_isMapNumber
set_option maxRecDepth 20000 in
theorem gX11_read_X11_isMapNumber : GoodIn wsX11_read (va_wsS RX11 267 yX11_isMapNumber wsX11_isMapNumber) := goodIn_app (gdp_In _ pcs_X11_read pc_X11_read [(1, 3), (1, 4), (1, 5)] rfl (gw_S _ _ _)) ggX11_read_X11_isMapNumber
set_option maxRecDepth 20000 in
theorem ggX11_read_X4_isThere : GoodIn wsX11_read wsX4_isThere := gdp_In _ pcs_X11_read pc_X11_read [(1, 11), (1, 12), (7, 0), (7, 1), (7, 2), (7, 3)] rfl gw_X4_isThere
set_option maxRecDepth 20000 in
theorem gX11_read_X4_isThere : GoodIn wsX11_read (wsV RX11 281 RX4 yX4_isThere wsX4_isThere) := goodIn_app (gdp_In _ pcs_X11_read pc_X11_read [(1, 7), (1, 8), (1, 9), (1, 10)] rfl (gw_V _ _ _ _)) ggX11_read_X4_isThere
set_option maxRecDepth 20000 in
theorem ggX11_read_X11_readRefusal : GoodIn wsX11_read wsX11_readRefusal := gdp_In _ pcs_X11_read pc_X11_read [(1, 16), (1, 17), (1, 18), (1, 19), (1, 20), (1, 10), (1, 21), (1, 22), (1, 23), (2, 0), (2, 1), (1, 5), (2, 2), (2, 3), (2, 4), (2, 5), (2, 6), (2, 7), (2, 8), (2, 9), (2, 10), (2, 11), (2, 12), (2, 13), (2, 14), (2, 15), (2, 16), (2, 17), (7, 0), (7, 1), (7, 2), (7, 3), (6, 0), (6, 1), (6, 2), (6, 3), (6, 4), (6, 5), (6, 6), (6, 7), (6, 8), (6, 9), (6, 10), (6, 11), (8, 0), (8, 1), (8, 2), (8, 3), (8, 4), (8, 5), (8, 6)] rfl gw_X11_readRefusal
set_option maxRecDepth 20000 in
theorem gX11_read_X11_readRefusal : GoodIn wsX11_read (wsV RX11 287 RX11 yX11_readRefusal wsX11_readRefusal) := goodIn_app (gdp_In _ pcs_X11_read pc_X11_read [(1, 13), (1, 14), (1, 15), (1, 5)] rfl (gw_V _ _ _ _)) ggX11_read_X11_readRefusal
set_option maxRecDepth 20000 in
theorem ggX11_read_X11_remember : GoodIn wsX11_read wsX11_remember := gdp_In _ pcs_X11_read pc_X11_read [(2, 21), (2, 22), (2, 23), (3, 0), (3, 1), (3, 2), (2, 11), (2, 4), (3, 3), (3, 4), (3, 5), (3, 6), (3, 7), (2, 17), (3, 8), (3, 9), (3, 10), (3, 11), (3, 12), (3, 13), (3, 14), (3, 15), (3, 16), (3, 17), (3, 18), (3, 19), (3, 20), (3, 21), (3, 22), (6, 0), (6, 1), (6, 2), (6, 3), (6, 4), (6, 5), (6, 6), (6, 7), (6, 8), (6, 9), (6, 10), (6, 11), (8, 0), (8, 1), (8, 2), (8, 3), (8, 4), (8, 5), (8, 6)] rfl gw_X11_remember
set_option maxRecDepth 20000 in
theorem gX11_read_X11_remember : GoodIn wsX11_read (wsV RX11 97 RX11 yX11_remember wsX11_remember) := goodIn_app (gdp_In _ pcs_X11_read pc_X11_read [(2, 18), (2, 19), (2, 20), (1, 5)] rfl (gw_V _ _ _ _)) ggX11_read_X11_remember
set_option maxRecDepth 20000 in
theorem ggX11_read_X4_whole : GoodIn wsX11_read wsX4_whole := gdp_In _ pcs_X11_read pc_X11_read [(4, 2), (4, 3), (1, 19), (1, 20), (1, 10), (1, 21), (1, 22), (7, 0), (7, 1), (7, 2), (7, 3)] rfl gw_X4_whole
set_option maxRecDepth 20000 in
theorem gX11_read_X4_whole : GoodIn wsX11_read (wsV RX11 291 RX4 yX4_whole wsX4_whole) := goodIn_app (gdp_In _ pcs_X11_read pc_X11_read [(3, 23), (4, 0), (4, 1), (1, 10)] rfl (gw_V _ _ _ _)) ggX11_read_X4_whole
set_option maxRecDepth 20000 in
theorem ggX11_read_X11_addLine : GoodIn wsX11_read wsX11_addLine := gdp_In _ pcs_X11_read pc_X11_read [(4, 7), (2, 4), (4, 8), (4, 9), (4, 10), (4, 11), (4, 12), (4, 13), (4, 14), (4, 15), (4, 16), (4, 17), (4, 18), (4, 19), (4, 20), (4, 21), (4, 22), (4, 23), (5, 0), (5, 1), (5, 2), (2, 11), (5, 3), (3, 10), (3, 8), (3, 11), (3, 12), (3, 13), (3, 14), (6, 0), (6, 1), (6, 2), (6, 3), (6, 4), (6, 5), (6, 6), (6, 7), (6, 8), (6, 9), (6, 10), (6, 11), (8, 0), (8, 1), (8, 2), (8, 3), (8, 4), (8, 5), (8, 6)] rfl gw_X11_addLine
set_option maxRecDepth 20000 in
theorem gX11_read_X11_addLine : GoodIn wsX11_read (wsV RX11 108 RX11 yX11_addLine wsX11_addLine) := goodIn_app (gdp_In _ pcs_X11_read pc_X11_read [(4, 4), (4, 5), (4, 6), (1, 5)] rfl (gw_V _ _ _ _)) ggX11_read_X11_addLine
set_option maxRecDepth 20000 in
theorem ggX11_about_X3_missingLines : GoodIn wsX11_about wsX3_missingLines := goodIn_r _ [9, 10, 11, 12, 13, 8, 14, 15, 34, 35, 36, 37, 38, 39, 40] rfl gw_X3_missingLines
set_option maxRecDepth 20000 in
theorem gX11_about_X3_missingLines : GoodIn wsX11_about (wsV RX11 297 RX3 yX3_missingLines wsX3_missingLines) := goodIn_app (goodIn_r _ [5, 6, 7, 8] rfl (gw_V _ _ _ _)) ggX11_about_X3_missingLines
set_option maxRecDepth 20000 in
theorem ggX11_about_X3_isWhole : GoodIn wsX11_about wsX3_isWhole := goodIn_r _ [19, 10, 20, 21, 11, 12, 13, 8, 14, 15, 34, 35, 36, 37, 38, 39, 40] rfl gw_X3_isWhole
set_option maxRecDepth 20000 in
theorem gX11_about_X3_isWhole : GoodIn wsX11_about (wsV RX11 204 RX3 yX3_isWhole wsX3_isWhole) := goodIn_app (goodIn_r _ [16, 17, 18, 8] rfl (gw_V _ _ _ _)) ggX11_about_X3_isWhole
set_option maxRecDepth 20000 in
theorem ggX11_remember_X3_init : GoodIn wsX11_remember wsX3_init := gdp_In _ pcs_X11_remember pc_X11_remember [(1, 8), (1, 9), (1, 10), (1, 11), (1, 12), (1, 13), (1, 14), (1, 15), (1, 16), (1, 17), (1, 18), (1, 19), (4, 0), (4, 1), (4, 2), (4, 3), (4, 4), (4, 5), (4, 6)] rfl gw_X3_init
set_option maxRecDepth 20000 in
theorem gX11_remember_X3_init_n30 : GoodIn wsX11_remember (wsX3_init) := ggX11_remember_X3_init
set_option maxRecDepth 20000 in
theorem ggX11_remember_X3_become : GoodIn wsX11_remember wsX3_become := gdp_In _ pcs_X11_remember pc_X11_remember [(1, 23), (1, 12), (1, 13), (1, 15), (2, 0), (2, 1), (2, 2), (2, 3), (1, 16), (1, 17), (1, 18), (1, 19), (4, 0), (4, 1), (4, 2), (4, 3), (4, 4), (4, 5), (4, 6)] rfl gw_X3_become
set_option maxRecDepth 20000 in
theorem gX11_remember_X3_become : GoodIn wsX11_remember (wsV RX11 151 RX3 yX3_become wsX3_become) := goodIn_app (gdp_In _ pcs_X11_remember pc_X11_remember [(1, 20), (1, 21), (1, 22), (1, 5)] rfl (gw_V _ _ _ _)) ggX11_remember_X3_become
set_option maxRecDepth 20000 in
theorem ggX11_lineRefusal_X3_hasPair : GoodIn wsX11_lineRefusal wsX3_hasPair := goodIn_r _ [10, 11, 12, 13, 9, 14, 15, 28, 29, 30, 31, 32, 33, 34] rfl gw_X3_hasPair
set_option maxRecDepth 20000 in
theorem gX11_lineRefusal_X3_hasPair : GoodIn wsX11_lineRefusal (wsV RX11 135 RX3 yX3_hasPair wsX3_hasPair) := goodIn_app (goodIn_r _ [6, 7, 8, 9] rfl (gw_V _ _ _ _)) ggX11_lineRefusal_X3_hasPair
set_option maxRecDepth 20000 in
theorem ggX11_addLine_X6_begins : GoodIn wsX11_addLine wsX6_begins := gdp_In _ pcs_X11_addLine pc_X11_addLine [(1, 7)] rfl gw_X6_begins
set_option maxRecDepth 20000 in
theorem gX11_addLine_X6_begins_u306X2 : GoodIn wsX11_addLine (va_wsU RX11 306 RX2 "CutAtlas$PlainKind" ⟨"CutAtlas$PlainKind", "begins", "(I)I"⟩ yX6_begins wsX6_begins) := goodIn_app (goodIn_of _ (by decide +kernel)) ggX11_addLine_X6_begins
set_option maxRecDepth 20000 in
theorem gX11_addLine_X6_begins_u306X5 : GoodIn wsX11_addLine (va_wsU RX11 306 RX5 "CutAtlas$PlainKind" ⟨"CutAtlas$PlainKind", "begins", "(I)I"⟩ yX6_begins wsX6_begins) := goodIn_app (goodIn_of _ (by decide +kernel)) ggX11_addLine_X6_begins
set_option maxRecDepth 20000 in
theorem gX11_addLine_X6_begins : GoodIn wsX11_addLine (wsV RX11 306 RX6 yX6_begins wsX6_begins) := goodIn_app (gdp_In _ pcs_X11_addLine pc_X11_addLine [(1, 9), (1, 5), (1, 10), (1, 6)] rfl (gw_V _ _ _ _)) ggX11_addLine_X6_begins
set_option maxRecDepth 20000 in
theorem ggX11_addLine_X8_begins : GoodIn wsX11_addLine wsX8_begins := gdp_In _ pcs_X11_addLine pc_X11_addLine [(1, 15)] rfl gw_X8_begins
set_option maxRecDepth 20000 in
theorem gX11_addLine_X8_begins_u306X8 : GoodIn wsX11_addLine (va_wsO RX11 306 RX8 "CutAtlas$PlainKind" ⟨"CutAtlas$PlainKind", "begins", "(I)I"⟩ yX8_begins wsX8_begins) := goodIn_app (goodIn_of _ (by decide +kernel)) ggX11_addLine_X8_begins
set_option maxRecDepth 20000 in
theorem gX11_addLine_X6_begins_u306X9 : GoodIn wsX11_addLine (va_wsU RX11 306 RX9 "CutAtlas$PlainKind" ⟨"CutAtlas$PlainKind", "begins", "(I)I"⟩ yX6_begins wsX6_begins) := goodIn_app (goodIn_of _ (by decide +kernel)) ggX11_addLine_X6_begins
set_option maxRecDepth 20000 in
theorem ggX11_addLine_X3_append : GoodIn wsX11_addLine wsX3_append := gdp_In _ pcs_X11_addLine pc_X11_addLine [(1, 21), (1, 22), (1, 23), (2, 0), (2, 1), (2, 2), (2, 3), (4, 0), (4, 1), (4, 2), (4, 3), (4, 4), (4, 5), (4, 6)] rfl gw_X3_append
set_option maxRecDepth 20000 in
theorem gX11_addLine_X3_append : GoodIn wsX11_addLine (wsV RX11 309 RX3 yX3_append wsX3_append) := goodIn_app (gdp_In _ pcs_X11_addLine pc_X11_addLine [(1, 17), (1, 18), (1, 19), (1, 20)] rfl (gw_V _ _ _ _)) ggX11_addLine_X3_append
set_option maxRecDepth 20000 in
theorem ggX11_mostNow_X0_load : GoodIn wsX11_mostNow wsX0_load := gdp_In _ pcs_X11_mostNow pc_X11_mostNow [(1, 5), (1, 6), (1, 7), (1, 8), (1, 9), (1, 10), (1, 11), (1, 12), (1, 13), (1, 14), (1, 15), (1, 16), (1, 17), (1, 18), (1, 19), (1, 20), (1, 21), (1, 22), (1, 23), (2, 0), (2, 1), (2, 2), (2, 3), (2, 4), (2, 5), (2, 6), (2, 7), (2, 8), (2, 9), (2, 10), (2, 11), (2, 12), (2, 13), (2, 14), (2, 15), (2, 16), (2, 17), (2, 18), (2, 19), (2, 20), (2, 21), (2, 22), (2, 23), (3, 0), (1, 4), (3, 1), (3, 2), (6, 0), (6, 1), (6, 2), (6, 3), (6, 4), (6, 5), (6, 6), (6, 7), (6, 8), (7, 0), (7, 1), (7, 2), (7, 3), (7, 4), (7, 5), (7, 6)] rfl gw_X0_load
set_option maxRecDepth 20000 in
theorem gX11_mostNow_X0_load : GoodIn wsX11_mostNow (wsV RX11 190 RX0 yX0_load wsX0_load) := goodIn_app (gdp_In _ pcs_X11_mostNow pc_X11_mostNow [(1, 1), (1, 2), (1, 3), (1, 4)] rfl (gw_V _ _ _ _)) ggX11_mostNow_X0_load
set_option maxRecDepth 20000 in
theorem ggX11_mostNow_X0_fill : GoodIn wsX11_mostNow wsX0_fill := gdp_In _ pcs_X11_mostNow pc_X11_mostNow [(3, 6), (3, 7), (1, 6), (1, 7), (1, 8), (3, 8), (3, 9), (3, 10), (3, 11), (3, 12), (3, 2), (1, 17), (1, 18), (1, 19), (1, 20), (3, 13), (3, 14), (3, 15), (1, 4), (3, 16), (3, 17), (3, 18), (3, 19), (3, 20), (3, 21), (3, 22), (3, 23), (4, 0), (4, 1), (4, 2), (4, 3), (4, 4), (4, 5), (4, 6), (4, 7), (4, 8), (4, 9), (4, 10), (4, 11), (1, 9), (1, 15), (1, 16), (1, 13), (1, 14), (6, 0), (6, 1), (6, 2), (6, 3), (6, 4), (6, 5), (6, 6), (6, 7), (6, 8), (7, 0), (7, 1), (7, 2), (7, 3), (7, 4), (7, 5), (7, 6)] rfl gw_X0_fill
set_option maxRecDepth 20000 in
theorem gX11_mostNow_X0_fill : GoodIn wsX11_mostNow (wsV RX11 198 RX0 yX0_fill wsX0_fill) := goodIn_app (gdp_In _ pcs_X11_mostNow pc_X11_mostNow [(3, 3), (3, 4), (3, 5), (1, 4)] rfl (gw_V _ _ _ _)) ggX11_mostNow_X0_fill
set_option maxRecDepth 20000 in
theorem ggX11_mapRefusal_X11_isMapNumber : GoodIn wsX11_mapRefusal wsX11_isMapNumber := goodIn_r _ [4] rfl gw_X11_isMapNumber
set_option maxRecDepth 20000 in
theorem gX11_mapRefusal_X11_isMapNumber : GoodIn wsX11_mapRefusal (va_wsS RX11 267 yX11_isMapNumber wsX11_isMapNumber) := goodIn_app (goodIn_r _ [1, 2, 3] rfl (gw_S _ _ _)) ggX11_mapRefusal_X11_isMapNumber
set_option maxRecDepth 20000 in
theorem ggX11_mapRefusal_X11_isMapKind : GoodIn wsX11_mapRefusal wsX11_isMapKind := goodIn_r _ [7] rfl gw_X11_isMapKind
set_option maxRecDepth 20000 in
theorem gX11_mapRefusal_X11_isMapKind : GoodIn wsX11_mapRefusal (va_wsS RX11 312 yX11_isMapKind wsX11_isMapKind) := goodIn_app (goodIn_r _ [5, 6, 3] rfl (gw_S _ _ _)) ggX11_mapRefusal_X11_isMapKind
set_option maxRecDepth 20000 in
theorem ggX11_rowRefusal_X11_isMapNumber : GoodIn wsX11_rowRefusal wsX11_isMapNumber := goodIn_r _ [5] rfl gw_X11_isMapNumber
set_option maxRecDepth 20000 in
theorem gX11_rowRefusal_X11_isMapNumber : GoodIn wsX11_rowRefusal (va_wsS RX11 267 yX11_isMapNumber wsX11_isMapNumber) := goodIn_app (goodIn_r _ [2, 3, 4] rfl (gw_S _ _ _)) ggX11_rowRefusal_X11_isMapNumber
set_option maxRecDepth 20000 in
theorem ggX11_rowRefusal_X4_isThere : GoodIn wsX11_rowRefusal wsX4_isThere := goodIn_r _ [10, 11, 28, 29, 30, 31] rfl gw_X4_isThere
set_option maxRecDepth 20000 in
theorem gX11_rowRefusal_X4_isThere : GoodIn wsX11_rowRefusal (wsV RX11 281 RX4 yX4_isThere wsX4_isThere) := goodIn_app (goodIn_r _ [6, 7, 8, 9] rfl (gw_V _ _ _ _)) ggX11_rowRefusal_X4_isThere
set_option maxRecDepth 20000 in
theorem ggX11_rowRefusal_X4_hasRow : GoodIn wsX11_rowRefusal wsX4_hasRow := goodIn_r _ [15, 11, 28, 29, 30, 31] rfl gw_X4_hasRow
set_option maxRecDepth 20000 in
theorem gX11_rowRefusal_X4_hasRow : GoodIn wsX11_rowRefusal (wsV RX11 315 RX4 yX4_hasRow wsX4_hasRow) := goodIn_app (goodIn_r _ [12, 13, 14, 9] rfl (gw_V _ _ _ _)) ggX11_rowRefusal_X4_hasRow
set_option maxRecDepth 20000 in
theorem ggX11_numberRefusal_X11_isMapNumber : GoodIn wsX11_numberRefusal wsX11_isMapNumber := goodIn_r _ [7] rfl gw_X11_isMapNumber
set_option maxRecDepth 20000 in
theorem gX11_numberRefusal_X11_isMapNumber : GoodIn wsX11_numberRefusal (va_wsS RX11 267 yX11_isMapNumber wsX11_isMapNumber) := goodIn_app (goodIn_r _ [4, 5, 6] rfl (gw_S _ _ _)) ggX11_numberRefusal_X11_isMapNumber
set_option maxRecDepth 20000 in
theorem ggX11_numberRefusal_X11_isMapKind : GoodIn wsX11_numberRefusal wsX11_isMapKind := goodIn_r _ [10] rfl gw_X11_isMapKind
set_option maxRecDepth 20000 in
theorem gX11_numberRefusal_X11_isMapKind : GoodIn wsX11_numberRefusal (va_wsS RX11 312 yX11_isMapKind wsX11_isMapKind) := goodIn_app (goodIn_r _ [8, 9, 6] rfl (gw_S _ _ _)) ggX11_numberRefusal_X11_isMapKind
set_option maxRecDepth 20000 in
theorem ggX11_numberRefusal_X4_isThere : GoodIn wsX11_numberRefusal wsX4_isThere := goodIn_r _ [15, 16, 33, 34, 35, 36] rfl gw_X4_isThere
set_option maxRecDepth 20000 in
theorem gX11_numberRefusal_X4_isThere : GoodIn wsX11_numberRefusal (wsV RX11 281 RX4 yX4_isThere wsX4_isThere) := goodIn_app (goodIn_r _ [11, 12, 13, 14] rfl (gw_V _ _ _ _)) ggX11_numberRefusal_X4_isThere
set_option maxRecDepth 20000 in
theorem ggX11_numberRefusal_X4_hasRow : GoodIn wsX11_numberRefusal wsX4_hasRow := goodIn_r _ [20, 16, 33, 34, 35, 36] rfl gw_X4_hasRow
set_option maxRecDepth 20000 in
theorem gX11_numberRefusal_X4_hasRow : GoodIn wsX11_numberRefusal (wsV RX11 315 RX4 yX4_hasRow wsX4_hasRow) := goodIn_app (goodIn_r _ [17, 18, 19, 14] rfl (gw_V _ _ _ _)) ggX11_numberRefusal_X4_hasRow
set_option maxRecDepth 20000 in
theorem ggX11_readRefusal_X4_number : GoodIn wsX11_readRefusal wsX4_number := gdp_In _ pcs_X11_readRefusal pc_X11_readRefusal [(1, 5), (1, 6), (3, 0), (3, 1), (3, 2), (3, 3)] rfl gw_X4_number
set_option maxRecDepth 20000 in
theorem gX11_readRefusal_X4_number : GoodIn wsX11_readRefusal (wsV RX11 277 RX4 yX4_number wsX4_number) := goodIn_app (gdp_In _ pcs_X11_readRefusal pc_X11_readRefusal [(1, 1), (1, 2), (1, 3), (1, 4)] rfl (gw_V _ _ _ _)) ggX11_readRefusal_X4_number
set_option maxRecDepth 20000 in
theorem ggX11_readRefusal_X11_lineRefusal : GoodIn wsX11_readRefusal wsX11_lineRefusal := gdp_In _ pcs_X11_readRefusal pc_X11_readRefusal [(1, 11), (1, 12), (1, 13), (1, 14), (1, 15), (1, 16), (1, 17), (1, 18), (1, 19), (1, 20), (1, 21), (1, 22), (1, 23), (2, 0), (2, 1), (2, 2), (4, 0), (4, 1), (4, 2), (4, 3), (4, 4), (4, 5), (4, 6), (4, 7), (4, 8), (4, 9), (4, 10), (4, 11), (5, 0), (5, 1), (5, 2), (5, 3), (5, 4), (5, 5), (5, 6)] rfl gw_X11_lineRefusal
set_option maxRecDepth 20000 in
theorem gX11_readRefusal_X11_lineRefusal : GoodIn wsX11_readRefusal (wsV RX11 100 RX11 yX11_lineRefusal wsX11_lineRefusal) := goodIn_app (gdp_In _ pcs_X11_readRefusal pc_X11_readRefusal [(1, 7), (1, 8), (1, 9), (1, 10)] rfl (gw_V _ _ _ _)) ggX11_readRefusal_X11_lineRefusal
