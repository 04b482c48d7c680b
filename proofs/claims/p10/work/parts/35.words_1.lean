set_option maxRecDepth 20000 in
theorem ggX11_line_X11_remember : GoodIn wsX11_line wsX11_remember := goodIn_r _ [26, 27, 28, 29, 30, 31, 16, 9, 32, 33, 34, 35, 36, 22, 37, 38, 39, 40, 41, 42, 43, 44, 45, 46, 47, 48, 49, 50, 51, 89, 90, 91, 92, 93, 94, 95, 96, 97, 98, 99, 100, 101, 102, 103, 104, 105, 106, 107] rfl gw_X11_remember
set_option maxRecDepth 20000 in
theorem gX11_line_X11_remember : GoodIn wsX11_line (wsV RX11 97 RX11 yX11_remember wsX11_remember) := goodIn_app (goodIn_r _ [23, 24, 25, 6] rfl (gw_V _ _ _ _)) ggX11_line_X11_remember
set_option maxRecDepth 20000 in
theorem ggX11_line_X6_beginsMark : GoodIn wsX11_line wsX6_beginsMark := goodIn_r _ [57] rfl gw_X6_beginsMark
set_option maxRecDepth 20000 in
theorem gX11_line_X6_beginsMark_u104X2 : GoodIn wsX11_line (va_wsU RX11 104 RX2 "CutAtlas$PlainKind" ⟨"CutAtlas$PlainKind", "beginsMark", "()I"⟩ yX6_beginsMark wsX6_beginsMark) := goodIn_app (goodIn_of _ (by decide +kernel)) ggX11_line_X6_beginsMark
set_option maxRecDepth 20000 in
theorem gX11_line_X6_beginsMark_u104X5 : GoodIn wsX11_line (va_wsU RX11 104 RX5 "CutAtlas$PlainKind" ⟨"CutAtlas$PlainKind", "beginsMark", "()I"⟩ yX6_beginsMark wsX6_beginsMark) := goodIn_app (goodIn_of _ (by decide +kernel)) ggX11_line_X6_beginsMark
set_option maxRecDepth 20000 in
theorem gX11_line_X6_beginsMark : GoodIn wsX11_line (wsV RX11 104 RX6 yX6_beginsMark wsX6_beginsMark) := goodIn_app (goodIn_r _ [59, 55, 60, 56] rfl (gw_V _ _ _ _)) ggX11_line_X6_beginsMark
set_option maxRecDepth 20000 in
theorem ggX11_line_X8_beginsMark : GoodIn wsX11_line wsX8_beginsMark := goodIn_r _ [65, 66] rfl gw_X8_beginsMark
set_option maxRecDepth 20000 in
theorem gX11_line_X8_beginsMark_u104X8 : GoodIn wsX11_line (va_wsO RX11 104 RX8 "CutAtlas$PlainKind" ⟨"CutAtlas$PlainKind", "beginsMark", "()I"⟩ yX8_beginsMark wsX8_beginsMark) := goodIn_app (goodIn_of _ (by decide +kernel)) ggX11_line_X8_beginsMark
set_option maxRecDepth 20000 in
theorem gX11_line_X6_beginsMark_u104X9 : GoodIn wsX11_line (va_wsU RX11 104 RX9 "CutAtlas$PlainKind" ⟨"CutAtlas$PlainKind", "beginsMark", "()I"⟩ yX6_beginsMark wsX6_beginsMark) := goodIn_app (goodIn_of _ (by decide +kernel)) ggX11_line_X6_beginsMark
set_option maxRecDepth 20000 in
theorem ggX11_line_X11_addLine : GoodIn wsX11_line wsX11_addLine := goodIn_r _ [71, 9, 2, 72, 73, 74, 75, 56, 76, 77, 78, 79, 80, 81, 82, 64, 83, 84, 85, 86, 87, 16, 88, 39, 37, 40, 41, 42, 43, 89, 90, 91, 92, 93, 94, 95, 96, 97, 98, 99, 100, 101, 102, 103, 104, 105, 106, 107] rfl gw_X11_addLine
set_option maxRecDepth 20000 in
theorem gX11_line_X11_addLine : GoodIn wsX11_line (wsV RX11 108 RX11 yX11_addLine wsX11_addLine) := goodIn_app (goodIn_r _ [68, 69, 70, 6] rfl (gw_V _ _ _ _)) ggX11_line_X11_addLine
set_option maxRecDepth 20000 in
theorem ggX11_widen_X3_hasLine : GoodIn wsX11_widen wsX3_hasLine := goodIn_r _ [11, 12, 98, 99, 100, 101, 102, 103, 104] rfl gw_X3_hasLine
set_option maxRecDepth 20000 in
theorem gX11_widen_X3_hasLine : GoodIn wsX11_widen (wsV RX11 112 RX3 yX3_hasLine wsX3_hasLine) := goodIn_app (goodIn_r _ [7, 8, 9, 10] rfl (gw_V _ _ _ _)) ggX11_widen_X3_hasLine
set_option maxRecDepth 20000 in
theorem ggX11_widen_X2_costs : GoodIn wsX11_widen wsX2_costs := goodIn_r _ [19] rfl gw_X2_costs
set_option maxRecDepth 20000 in
theorem gX11_widen_X2_costs_u122X2 : GoodIn wsX11_widen (va_wsO RX11 122 RX2 "CutAtlas$PlainKind" ⟨"CutAtlas$PlainKind", "costs", "(I)I"⟩ yX2_costs wsX2_costs) := goodIn_app (goodIn_of _ (by decide +kernel)) ggX11_widen_X2_costs
set_option maxRecDepth 20000 in
theorem ggX11_widen_X6_costs : GoodIn wsX11_widen wsX6_costs := goodIn_r _ [20] rfl gw_X6_costs
set_option maxRecDepth 20000 in
theorem gX11_widen_X6_costs_u122X5 : GoodIn wsX11_widen (va_wsU RX11 122 RX5 "CutAtlas$PlainKind" ⟨"CutAtlas$PlainKind", "costs", "(I)I"⟩ yX6_costs wsX6_costs) := goodIn_app (goodIn_of _ (by decide +kernel)) ggX11_widen_X6_costs
set_option maxRecDepth 20000 in
theorem gX11_widen_X6_costs : GoodIn wsX11_widen (wsV RX11 122 RX6 yX6_costs wsX6_costs) := goodIn_app (goodIn_r _ [24, 22, 25, 23] rfl (gw_V _ _ _ _)) ggX11_widen_X6_costs
set_option maxRecDepth 20000 in
theorem ggX11_widen_X8_costs : GoodIn wsX11_widen wsX8_costs := goodIn_r _ [29, 30, 31, 32, 17, 18, 19] rfl gw_X8_costs
set_option maxRecDepth 20000 in
theorem gX11_widen_X8_costs_u122X8 : GoodIn wsX11_widen (va_wsO RX11 122 RX8 "CutAtlas$PlainKind" ⟨"CutAtlas$PlainKind", "costs", "(I)I"⟩ yX8_costs wsX8_costs) := goodIn_app (goodIn_of _ (by decide +kernel)) ggX11_widen_X8_costs
set_option maxRecDepth 20000 in
theorem gX11_widen_X6_costs_u122X9 : GoodIn wsX11_widen (va_wsU RX11 122 RX9 "CutAtlas$PlainKind" ⟨"CutAtlas$PlainKind", "costs", "(I)I"⟩ yX6_costs wsX6_costs) := goodIn_app (goodIn_of _ (by decide +kernel)) ggX11_widen_X6_costs
set_option maxRecDepth 20000 in
theorem ggX11_widen_X3_isMissing : GoodIn wsX11_widen wsX3_isMissing := goodIn_r _ [37, 38, 98, 99, 100, 101, 102, 103, 104] rfl gw_X3_isMissing
set_option maxRecDepth 20000 in
theorem gX11_widen_X3_isMissing : GoodIn wsX11_widen (wsV RX11 126 RX3 yX3_isMissing wsX3_isMissing) := goodIn_app (goodIn_r _ [34, 35, 36, 10] rfl (gw_V _ _ _ _)) ggX11_widen_X3_isMissing
set_option maxRecDepth 20000 in
theorem ggX11_widen_X11_remember : GoodIn wsX11_widen wsX11_remember := goodIn_r _ [43, 44, 45, 46, 47, 48, 10, 1, 49, 50, 51, 52, 53, 54, 12, 55, 56, 38, 57, 58, 59, 60, 61, 62, 63, 64, 65, 66, 67, 86, 87, 88, 89, 90, 91, 92, 93, 94, 95, 96, 97, 98, 99, 100, 101, 102, 103, 104] rfl gw_X11_remember
set_option maxRecDepth 20000 in
theorem gX11_widen_X11_remember : GoodIn wsX11_widen (wsV RX11 97 RX11 yX11_remember wsX11_remember) := goodIn_app (goodIn_r _ [39, 40, 41, 42] rfl (gw_V _ _ _ _)) ggX11_widen_X11_remember
set_option maxRecDepth 20000 in
theorem ggX11_widen_X2_costsMark : GoodIn wsX11_widen wsX2_costsMark := goodIn_r _ [73] rfl gw_X2_costsMark
set_option maxRecDepth 20000 in
theorem gX11_widen_X2_costsMark_u132X2 : GoodIn wsX11_widen (va_wsO RX11 132 RX2 "CutAtlas$PlainKind" ⟨"CutAtlas$PlainKind", "costsMark", "()I"⟩ yX2_costsMark wsX2_costsMark) := goodIn_app (goodIn_of _ (by decide +kernel)) ggX11_widen_X2_costsMark
set_option maxRecDepth 20000 in
theorem ggX11_widen_X6_costsMark : GoodIn wsX11_widen wsX6_costsMark := goodIn_r _ [74] rfl gw_X6_costsMark
set_option maxRecDepth 20000 in
theorem gX11_widen_X6_costsMark_u132X5 : GoodIn wsX11_widen (va_wsU RX11 132 RX5 "CutAtlas$PlainKind" ⟨"CutAtlas$PlainKind", "costsMark", "()I"⟩ yX6_costsMark wsX6_costsMark) := goodIn_app (goodIn_of _ (by decide +kernel)) ggX11_widen_X6_costsMark
set_option maxRecDepth 20000 in
theorem gX11_widen_X6_costsMark : GoodIn wsX11_widen (wsV RX11 132 RX6 yX6_costsMark wsX6_costsMark) := goodIn_app (goodIn_r _ [77, 76, 78, 23] rfl (gw_V _ _ _ _)) ggX11_widen_X6_costsMark
set_option maxRecDepth 20000 in
theorem ggX11_widen_X8_costsMark : GoodIn wsX11_widen wsX8_costsMark := goodIn_r _ [81, 82, 83, 84, 32, 72, 18, 73] rfl gw_X8_costsMark
set_option maxRecDepth 20000 in
theorem gX11_widen_X8_costsMark_u132X8 : GoodIn wsX11_widen (va_wsO RX11 132 RX8 "CutAtlas$PlainKind" ⟨"CutAtlas$PlainKind", "costsMark", "()I"⟩ yX8_costsMark wsX8_costsMark) := goodIn_app (goodIn_of _ (by decide +kernel)) ggX11_widen_X8_costsMark
set_option maxRecDepth 20000 in
theorem gX11_widen_X6_costsMark_u132X9 : GoodIn wsX11_widen (va_wsU RX11 132 RX9 "CutAtlas$PlainKind" ⟨"CutAtlas$PlainKind", "costsMark", "()I"⟩ yX6_costsMark wsX6_costsMark) := goodIn_app (goodIn_of _ (by decide +kernel)) ggX11_widen_X6_costsMark
set_option maxRecDepth 20000 in
theorem ggX11_width_X3_hasLine : GoodIn wsX11_width wsX3_hasLine := goodIn_r _ [7, 8, 55, 56, 57, 58, 59, 60, 61] rfl gw_X3_hasLine
set_option maxRecDepth 20000 in
theorem gX11_width_X3_hasLine : GoodIn wsX11_width (wsV RX11 112 RX3 yX3_hasLine wsX3_hasLine) := goodIn_app (goodIn_r _ [3, 4, 5, 6] rfl (gw_V _ _ _ _)) ggX11_width_X3_hasLine
set_option maxRecDepth 20000 in
theorem ggX11_width_X3_isMissing : GoodIn wsX11_width wsX3_isMissing := goodIn_r _ [12, 13, 55, 56, 57, 58, 59, 60, 61] rfl gw_X3_isMissing
set_option maxRecDepth 20000 in
theorem gX11_width_X3_isMissing : GoodIn wsX11_width (wsV RX11 126 RX3 yX3_isMissing wsX3_isMissing) := goodIn_app (goodIn_r _ [9, 10, 11, 6] rfl (gw_V _ _ _ _)) ggX11_width_X3_isMissing
set_option maxRecDepth 20000 in
theorem ggX11_width_X11_remember : GoodIn wsX11_width wsX11_remember := goodIn_r _ [18, 19, 20, 21, 22, 23, 6, 1, 24, 25, 26, 27, 28, 29, 8, 30, 31, 13, 32, 33, 34, 35, 36, 37, 38, 39, 40, 41, 42, 43, 44, 45, 46, 47, 48, 49, 50, 51, 52, 53, 54, 55, 56, 57, 58, 59, 60, 61] rfl gw_X11_remember
set_option maxRecDepth 20000 in
theorem gX11_width_X11_remember : GoodIn wsX11_width (wsV RX11 97 RX11 yX11_remember wsX11_remember) := goodIn_app (goodIn_r _ [14, 15, 16, 17] rfl (gw_V _ _ _ _)) ggX11_width_X11_remember
set_option maxRecDepth 20000 in
theorem ggX11_merge_X3_hasPair : GoodIn wsX11_merge wsX3_hasPair := goodIn_r _ [13, 14, 15, 16, 12, 17, 18, 72, 73, 74, 75, 76, 77, 78] rfl gw_X3_hasPair
set_option maxRecDepth 20000 in
theorem gX11_merge_X3_hasPair : GoodIn wsX11_merge (wsV RX11 135 RX3 yX3_hasPair wsX3_hasPair) := goodIn_app (goodIn_r _ [9, 10, 11, 12] rfl (gw_V _ _ _ _)) ggX11_merge_X3_hasPair
set_option maxRecDepth 20000 in
theorem ggX11_merge_X11_remember : GoodIn wsX11_merge wsX11_remember := goodIn_r _ [23, 24, 25, 26, 27, 28, 12, 1, 29, 30, 31, 32, 33, 18, 34, 35, 36, 37, 38, 39, 40, 41, 42, 43, 44, 45, 46, 47, 48, 60, 61, 62, 63, 64, 65, 66, 67, 68, 69, 70, 71, 72, 73, 74, 75, 76, 77, 78] rfl gw_X11_remember
set_option maxRecDepth 20000 in
theorem gX11_merge_X11_remember : GoodIn wsX11_merge (wsV RX11 97 RX11 yX11_remember wsX11_remember) := goodIn_app (goodIn_r _ [19, 20, 21, 22] rfl (gw_V _ _ _ _)) ggX11_merge_X11_remember
set_option maxRecDepth 20000 in
theorem ggX11_merge_X3_join : GoodIn wsX11_merge wsX3_join := goodIn_r _ [52, 34, 37, 38, 18, 53, 54, 55, 12, 56, 57, 58, 59, 72, 73, 74, 75, 76, 77, 78] rfl gw_X3_join
set_option maxRecDepth 20000 in
theorem gX11_merge_X3_join : GoodIn wsX11_merge (wsV RX11 148 RX3 yX3_join wsX3_join) := goodIn_app (goodIn_r _ [49, 50, 51, 12] rfl (gw_V _ _ _ _)) ggX11_merge_X3_join
set_option maxRecDepth 20000 in
theorem ggX11_undo_X3_become : GoodIn wsX11_undo wsX3_become := goodIn_r _ [9, 10, 11, 12, 13, 14, 15, 16, 17, 18, 19, 20, 33, 34, 35, 36, 37, 38, 39] rfl gw_X3_become
set_option maxRecDepth 20000 in
theorem gX11_undo_X3_become : GoodIn wsX11_undo (wsV RX11 151 RX3 yX3_become wsX3_become) := goodIn_app (goodIn_r _ [5, 6, 7, 8] rfl (gw_V _ _ _ _)) ggX11_undo_X3_become
set_option maxRecDepth 20000 in
theorem ggX11_told_X3_hasLine : GoodIn wsX11_told wsX3_hasLine := goodIn_r _ [11, 12, 30, 31, 32, 33, 34, 35, 36] rfl gw_X3_hasLine
set_option maxRecDepth 20000 in
theorem gX11_told_X3_hasLine : GoodIn wsX11_told (wsV RX11 112 RX3 yX3_hasLine wsX3_hasLine) := goodIn_app (goodIn_r _ [7, 8, 9, 10] rfl (gw_V _ _ _ _)) ggX11_told_X3_hasLine
set_option maxRecDepth 20000 in
theorem ggX11_told_X3_isMissing : GoodIn wsX11_told wsX3_isMissing := goodIn_r _ [16, 17, 30, 31, 32, 33, 34, 35, 36] rfl gw_X3_isMissing
set_option maxRecDepth 20000 in
theorem gX11_told_X3_isMissing : GoodIn wsX11_told (wsV RX11 126 RX3 yX3_isMissing wsX3_isMissing) := goodIn_app (goodIn_r _ [13, 14, 15, 10] rfl (gw_V _ _ _ _)) ggX11_told_X3_isMissing
set_option maxRecDepth 20000 in
theorem ggX11_ask_X3_hasLine : GoodIn wsX11_ask wsX3_hasLine := goodIn_r _ [11, 12, 99, 100, 101, 102, 103, 104, 105] rfl gw_X3_hasLine
set_option maxRecDepth 20000 in
theorem gX11_ask_X3_hasLine : GoodIn wsX11_ask (wsV RX11 112 RX3 yX3_hasLine wsX3_hasLine) := goodIn_app (goodIn_r _ [7, 8, 9, 10] rfl (gw_V _ _ _ _)) ggX11_ask_X3_hasLine
set_option maxRecDepth 20000 in
theorem ggX11_ask_X2_costsMark : GoodIn wsX11_ask wsX2_costsMark := goodIn_r _ [19] rfl gw_X2_costsMark
set_option maxRecDepth 20000 in
theorem gX11_ask_X2_costsMark_u132X2 : GoodIn wsX11_ask (va_wsO RX11 132 RX2 "CutAtlas$PlainKind" ⟨"CutAtlas$PlainKind", "costsMark", "()I"⟩ yX2_costsMark wsX2_costsMark) := goodIn_app (goodIn_of _ (by decide +kernel)) ggX11_ask_X2_costsMark
set_option maxRecDepth 20000 in
theorem ggX11_ask_X6_costsMark : GoodIn wsX11_ask wsX6_costsMark := goodIn_r _ [20] rfl gw_X6_costsMark
set_option maxRecDepth 20000 in
theorem gX11_ask_X6_costsMark_u132X5 : GoodIn wsX11_ask (va_wsU RX11 132 RX5 "CutAtlas$PlainKind" ⟨"CutAtlas$PlainKind", "costsMark", "()I"⟩ yX6_costsMark wsX6_costsMark) := goodIn_app (goodIn_of _ (by decide +kernel)) ggX11_ask_X6_costsMark
set_option maxRecDepth 20000 in
theorem gX11_ask_X6_costsMark : GoodIn wsX11_ask (wsV RX11 132 RX6 yX6_costsMark wsX6_costsMark) := goodIn_app (goodIn_r _ [24, 22, 25, 23] rfl (gw_V _ _ _ _)) ggX11_ask_X6_costsMark
set_option maxRecDepth 20000 in
theorem ggX11_ask_X8_costsMark : GoodIn wsX11_ask wsX8_costsMark := goodIn_r _ [29, 30, 31, 32, 33, 17, 18, 19] rfl gw_X8_costsMark
set_option maxRecDepth 20000 in
theorem gX11_ask_X8_costsMark_u132X8 : GoodIn wsX11_ask (va_wsO RX11 132 RX8 "CutAtlas$PlainKind" ⟨"CutAtlas$PlainKind", "costsMark", "()I"⟩ yX8_costsMark wsX8_costsMark) := goodIn_app (goodIn_of _ (by decide +kernel)) ggX11_ask_X8_costsMark
set_option maxRecDepth 20000 in
theorem gX11_ask_X6_costsMark_u132X9 : GoodIn wsX11_ask (va_wsU RX11 132 RX9 "CutAtlas$PlainKind" ⟨"CutAtlas$PlainKind", "costsMark", "()I"⟩ yX6_costsMark wsX6_costsMark) := goodIn_app (goodIn_of _ (by decide +kernel)) ggX11_ask_X6_costsMark
set_option maxRecDepth 20000 in
theorem ggX11_ask_X2_costs : GoodIn wsX11_ask wsX2_costs := goodIn_r _ [40] rfl gw_X2_costs
set_option maxRecDepth 20000 in
theorem gX11_ask_X2_costs_u122X2 : GoodIn wsX11_ask (va_wsO RX11 122 RX2 "CutAtlas$PlainKind" ⟨"CutAtlas$PlainKind", "costs", "(I)I"⟩ yX2_costs wsX2_costs) := goodIn_app (goodIn_of _ (by decide +kernel)) ggX11_ask_X2_costs
set_option maxRecDepth 20000 in
theorem ggX11_ask_X6_costs : GoodIn wsX11_ask wsX6_costs := goodIn_r _ [41] rfl gw_X6_costs
set_option maxRecDepth 20000 in
theorem gX11_ask_X6_costs_u122X5 : GoodIn wsX11_ask (va_wsU RX11 122 RX5 "CutAtlas$PlainKind" ⟨"CutAtlas$PlainKind", "costs", "(I)I"⟩ yX6_costs wsX6_costs) := goodIn_app (goodIn_of _ (by decide +kernel)) ggX11_ask_X6_costs
set_option maxRecDepth 20000 in
theorem gX11_ask_X6_costs : GoodIn wsX11_ask (wsV RX11 122 RX6 yX6_costs wsX6_costs) := goodIn_app (goodIn_r _ [44, 43, 45, 23] rfl (gw_V _ _ _ _)) ggX11_ask_X6_costs
set_option maxRecDepth 20000 in
theorem ggX11_ask_X8_costs : GoodIn wsX11_ask wsX8_costs := goodIn_r _ [48, 49, 50, 33, 39, 18, 40] rfl gw_X8_costs
set_option maxRecDepth 20000 in
theorem gX11_ask_X8_costs_u122X8 : GoodIn wsX11_ask (va_wsO RX11 122 RX8 "CutAtlas$PlainKind" ⟨"CutAtlas$PlainKind", "costs", "(I)I"⟩ yX8_costs wsX8_costs) := goodIn_app (goodIn_of _ (by decide +kernel)) ggX11_ask_X8_costs
set_option maxRecDepth 20000 in
theorem gX11_ask_X6_costs_u122X9 : GoodIn wsX11_ask (va_wsU RX11 122 RX9 "CutAtlas$PlainKind" ⟨"CutAtlas$PlainKind", "costs", "(I)I"⟩ yX6_costs wsX6_costs) := goodIn_app (goodIn_of _ (by decide +kernel)) ggX11_ask_X6_costs
set_option maxRecDepth 20000 in
theorem ggX11_ask_X6_letsMark : GoodIn wsX11_ask wsX6_letsMark := goodIn_r _ [56] rfl gw_X6_letsMark
set_option maxRecDepth 20000 in
theorem gX11_ask_X6_letsMark_u161X2 : GoodIn wsX11_ask (va_wsU RX11 161 RX2 "CutAtlas$PlainKind" ⟨"CutAtlas$PlainKind", "letsMark", "(Z)I"⟩ yX6_letsMark wsX6_letsMark) := goodIn_app (goodIn_of _ (by decide +kernel)) ggX11_ask_X6_letsMark
set_option maxRecDepth 20000 in
theorem ggX11_ask_X5_letsMark : GoodIn wsX11_ask wsX5_letsMark := goodIn_r _ [61, 62, 53, 63, 55, 23, 56] rfl gw_X5_letsMark
set_option maxRecDepth 20000 in
theorem gX11_ask_X5_letsMark_u161X5 : GoodIn wsX11_ask (va_wsO RX11 161 RX5 "CutAtlas$PlainKind" ⟨"CutAtlas$PlainKind", "letsMark", "(Z)I"⟩ yX5_letsMark wsX5_letsMark) := goodIn_app (goodIn_of _ (by decide +kernel)) ggX11_ask_X5_letsMark
set_option maxRecDepth 20000 in
theorem gX11_ask_X6_letsMark : GoodIn wsX11_ask (wsV RX11 161 RX6 yX6_letsMark wsX6_letsMark) := goodIn_app (goodIn_r _ [64, 55, 65, 23] rfl (gw_V _ _ _ _)) ggX11_ask_X6_letsMark
set_option maxRecDepth 20000 in
theorem gX11_ask_X6_letsMark_u161X8 : GoodIn wsX11_ask (va_wsU RX11 161 RX8 "CutAtlas$PlainKind" ⟨"CutAtlas$PlainKind", "letsMark", "(Z)I"⟩ yX6_letsMark wsX6_letsMark) := goodIn_app (goodIn_of _ (by decide +kernel)) ggX11_ask_X6_letsMark
set_option maxRecDepth 20000 in
theorem ggX11_ask_X9_letsMark : GoodIn wsX11_ask wsX9_letsMark := goodIn_r _ [70] rfl gw_X9_letsMark
set_option maxRecDepth 20000 in
theorem gX11_ask_X9_letsMark_u161X9 : GoodIn wsX11_ask (va_wsO RX11 161 RX9 "CutAtlas$PlainKind" ⟨"CutAtlas$PlainKind", "letsMark", "(Z)I"⟩ yX9_letsMark wsX9_letsMark) := goodIn_app (goodIn_of _ (by decide +kernel)) ggX11_ask_X9_letsMark
set_option maxRecDepth 20000 in
theorem ggX11_ask_X6_lets : GoodIn wsX11_ask wsX6_lets := goodIn_r _ [75] rfl gw_X6_lets
set_option maxRecDepth 20000 in
theorem gX11_ask_X6_lets_u165X2 : GoodIn wsX11_ask (va_wsU RX11 165 RX2 "CutAtlas$PlainKind" ⟨"CutAtlas$PlainKind", "lets", "(IZ)I"⟩ yX6_lets wsX6_lets) := goodIn_app (goodIn_of _ (by decide +kernel)) ggX11_ask_X6_lets
set_option maxRecDepth 20000 in
theorem ggX11_ask_X5_lets : GoodIn wsX11_ask wsX5_lets := goodIn_r _ [79, 80, 72, 63, 74, 23, 75] rfl gw_X5_lets
set_option maxRecDepth 20000 in
theorem gX11_ask_X5_lets_u165X5 : GoodIn wsX11_ask (va_wsO RX11 165 RX5 "CutAtlas$PlainKind" ⟨"CutAtlas$PlainKind", "lets", "(IZ)I"⟩ yX5_lets wsX5_lets) := goodIn_app (goodIn_of _ (by decide +kernel)) ggX11_ask_X5_lets
set_option maxRecDepth 20000 in
theorem gX11_ask_X6_lets : GoodIn wsX11_ask (wsV RX11 165 RX6 yX6_lets wsX6_lets) := goodIn_app (goodIn_r _ [81, 74, 82, 23] rfl (gw_V _ _ _ _)) ggX11_ask_X6_lets
set_option maxRecDepth 20000 in
theorem gX11_ask_X6_lets_u165X8 : GoodIn wsX11_ask (va_wsU RX11 165 RX8 "CutAtlas$PlainKind" ⟨"CutAtlas$PlainKind", "lets", "(IZ)I"⟩ yX6_lets wsX6_lets) := goodIn_app (goodIn_of _ (by decide +kernel)) ggX11_ask_X6_lets
set_option maxRecDepth 20000 in
theorem ggX11_ask_X9_lets : GoodIn wsX11_ask wsX9_lets := goodIn_r _ [86] rfl gw_X9_lets
set_option maxRecDepth 20000 in
theorem gX11_ask_X9_lets_u165X9 : GoodIn wsX11_ask (va_wsO RX11 165 RX9 "CutAtlas$PlainKind" ⟨"CutAtlas$PlainKind", "lets", "(IZ)I"⟩ yX9_lets wsX9_lets) := goodIn_app (goodIn_of _ (by decide +kernel)) ggX11_ask_X9_lets
set_option maxRecDepth 20000 in
theorem ggX11_most_X3_hasPair : GoodIn wsX11_most wsX3_hasPair := goodIn_r _ [6, 7, 8, 9, 5, 10, 11, 112, 113, 114, 115, 116, 117, 118] rfl gw_X3_hasPair
set_option maxRecDepth 20000 in
theorem gX11_most_X3_hasPair : GoodIn wsX11_most (wsV RX11 135 RX3 yX3_hasPair wsX3_hasPair) := goodIn_app (goodIn_r _ [2, 3, 4, 5] rfl (gw_V _ _ _ _)) ggX11_most_X3_hasPair
set_option maxRecDepth 20000 in
theorem ggX11_most_X11_mostNow : GoodIn wsX11_most wsX11_mostNow := goodIn_r _ [16, 17, 18, 19, 20, 21, 22, 23, 24, 25, 26, 27, 28, 29, 30, 31, 32, 33, 34, 35, 36, 37, 38, 39, 40, 5, 41, 42, 43, 44, 45, 46, 47, 48, 49, 50, 51, 52, 53, 54, 55, 56, 57, 58, 59, 60, 61, 62, 63, 64, 65, 66, 67, 68, 69, 70, 71, 72, 73, 74, 75, 76, 77, 78, 79, 80, 81, 82, 83, 84, 85, 86, 87, 88, 89, 90, 91, 92, 93, 94, 95, 96, 97, 98, 99, 100, 101, 102, 103, 104, 105, 106, 107, 108, 109, 110, 111, 119, 120, 121, 122, 123, 124, 125, 126, 127, 112, 113, 114, 115, 116, 117, 118] rfl gw_X11_mostNow
set_option maxRecDepth 20000 in
theorem gX11_most_X11_mostNow : GoodIn wsX11_most (wsV RX11 169 RX11 yX11_mostNow wsX11_mostNow) := goodIn_app (goodIn_r _ [12, 13, 14, 15] rfl (gw_V _ _ _ _)) ggX11_most_X11_mostNow
set_option maxRecDepth 20000 in
theorem ggX11_flow_X3_hasPair : GoodIn wsX11_flow wsX3_hasPair := goodIn_r _ [9, 10, 11, 12, 8, 13, 14, 129, 130, 131, 132, 133, 134, 135] rfl gw_X3_hasPair
set_option maxRecDepth 20000 in
theorem gX11_flow_X3_hasPair : GoodIn wsX11_flow (wsV RX11 135 RX3 yX3_hasPair wsX3_hasPair) := goodIn_app (goodIn_r _ [5, 6, 7, 8] rfl (gw_V _ _ _ _)) ggX11_flow_X3_hasPair
set_option maxRecDepth 20000 in
theorem ggX11_flow_X3_hasLine : GoodIn wsX11_flow wsX3_hasLine := goodIn_r _ [18, 19, 129, 130, 131, 132, 133, 134, 135] rfl gw_X3_hasLine
set_option maxRecDepth 20000 in
theorem gX11_flow_X3_hasLine : GoodIn wsX11_flow (wsV RX11 112 RX3 yX3_hasLine wsX3_hasLine) := goodIn_app (goodIn_r _ [15, 16, 17, 8] rfl (gw_V _ _ _ _)) ggX11_flow_X3_hasLine
set_option maxRecDepth 20000 in
theorem ggX11_flow_X3_isMissing : GoodIn wsX11_flow wsX3_isMissing := goodIn_r _ [23, 24, 129, 130, 131, 132, 133, 134, 135] rfl gw_X3_isMissing
set_option maxRecDepth 20000 in
theorem gX11_flow_X3_isMissing : GoodIn wsX11_flow (wsV RX11 126 RX3 yX3_isMissing wsX3_isMissing) := goodIn_app (goodIn_r _ [20, 21, 22, 8] rfl (gw_V _ _ _ _)) ggX11_flow_X3_isMissing
set_option maxRecDepth 20000 in
theorem ggX11_flow_X11_mostNow : GoodIn wsX11_flow wsX11_mostNow := goodIn_r _ [29, 3, 30, 31, 32, 33, 34, 35, 36, 37, 38, 39, 40, 41, 42, 43, 44, 45, 46, 47, 48, 49, 50, 21, 22, 8, 23, 24, 51, 52, 53, 54, 55, 56, 57, 58, 59, 60, 61, 62, 63, 64, 65, 66, 67, 68, 69, 70, 71, 72, 73, 74, 75, 76, 77, 78, 79, 80, 81, 82, 83, 84, 85, 86, 87, 88, 89, 90, 91, 92, 93, 94, 95, 96, 97, 98, 99, 100, 101, 102, 103, 104, 105, 106, 107, 108, 109, 110, 111, 112, 113, 114, 115, 116, 117, 118, 119, 120, 121, 122, 123, 124, 125, 126, 127, 128, 129, 130, 131, 132, 133, 134, 135] rfl gw_X11_mostNow
set_option maxRecDepth 20000 in
theorem gX11_flow_X11_mostNow : GoodIn wsX11_flow (wsV RX11 169 RX11 yX11_mostNow wsX11_mostNow) := goodIn_app (goodIn_r _ [25, 26, 27, 28] rfl (gw_V _ _ _ _)) ggX11_flow_X11_mostNow
set_option maxRecDepth 20000 in
theorem ggX11_cut_X3_hasPair : GoodIn wsX11_cut wsX3_hasPair := goodIn_r _ [7, 8, 9, 10, 6, 11, 12, 124, 125, 126, 127, 128, 129, 130] rfl gw_X3_hasPair
set_option maxRecDepth 20000 in
theorem gX11_cut_X3_hasPair : GoodIn wsX11_cut (wsV RX11 135 RX3 yX3_hasPair wsX3_hasPair) := goodIn_app (goodIn_r _ [3, 4, 5, 6] rfl (gw_V _ _ _ _)) ggX11_cut_X3_hasPair
set_option maxRecDepth 20000 in
theorem ggX11_cut_X11_mostNow : GoodIn wsX11_cut wsX11_mostNow := goodIn_r _ [17, 2, 18, 19, 20, 21, 22, 23, 24, 25, 26, 27, 28, 29, 30, 31, 32, 33, 34, 35, 36, 37, 38, 39, 40, 6, 41, 42, 43, 44, 45, 46, 47, 48, 49, 50, 51, 52, 53, 54, 55, 56, 57, 58, 59, 60, 61, 62, 63, 64, 65, 66, 67, 68, 69, 70, 71, 72, 73, 74, 75, 76, 77, 78, 79, 80, 81, 82, 83, 84, 85, 86, 87, 88, 89, 90, 91, 92, 93, 94, 95, 96, 97, 98, 99, 112, 113, 114, 115, 116, 117, 118, 119, 120, 121, 122, 123, 131, 132, 133, 134, 135, 136, 137, 138, 139, 124, 125, 126, 127, 128, 129, 130] rfl gw_X11_mostNow
set_option maxRecDepth 20000 in
theorem gX11_cut_X11_mostNow : GoodIn wsX11_cut (wsV RX11 169 RX11 yX11_mostNow wsX11_mostNow) := goodIn_app (goodIn_r _ [13, 14, 15, 16] rfl (gw_V _ _ _ _)) ggX11_cut_X11_mostNow
set_option maxRecDepth 20000 in
theorem ggX11_cut_X0_nearCut : GoodIn wsX11_cut wsX0_nearCut := goodIn_r _ [103, 77, 78, 79, 21, 80, 81, 23, 24, 72, 131, 132, 133, 134, 135, 136, 137, 138, 139, 124, 125, 126, 127, 128, 129, 130] rfl gw_X0_nearCut
set_option maxRecDepth 20000 in
theorem gX11_cut_X0_nearCut : GoodIn wsX11_cut (wsV RX11 176 RX0 yX0_nearCut wsX0_nearCut) := goodIn_app (goodIn_r _ [100, 101, 102, 21] rfl (gw_V _ _ _ _)) ggX11_cut_X0_nearCut
set_option maxRecDepth 20000 in
theorem ggX11_cut_X0_farCut : GoodIn wsX11_cut wsX0_farCut := goodIn_r _ [107, 23, 24, 108, 109, 110, 21, 111, 81, 72, 131, 132, 133, 134, 135, 136, 137, 138, 139, 124, 125, 126, 127, 128, 129, 130] rfl gw_X0_farCut
set_option maxRecDepth 20000 in
theorem gX11_cut_X0_farCut : GoodIn wsX11_cut (wsV RX11 179 RX0 yX0_farCut wsX0_farCut) := goodIn_app (goodIn_r _ [104, 105, 106, 21] rfl (gw_V _ _ _ _)) ggX11_cut_X0_farCut
set_option maxRecDepth 20000 in
theorem ggX11_count_X3_hasPair : GoodIn wsX11_count wsX3_hasPair := goodIn_r _ [7, 8, 9, 10, 6, 11, 12, 149, 150, 151, 152, 153, 154, 155] rfl gw_X3_hasPair
set_option maxRecDepth 20000 in
theorem gX11_count_X3_hasPair : GoodIn wsX11_count (wsV RX11 135 RX3 yX3_hasPair wsX3_hasPair) := goodIn_app (goodIn_r _ [3, 4, 5, 6] rfl (gw_V _ _ _ _)) ggX11_count_X3_hasPair
set_option maxRecDepth 20000 in
theorem ggX11_count_X11_mostNow : GoodIn wsX11_count wsX11_mostNow := goodIn_r _ [17, 18, 19, 20, 21, 22, 23, 24, 25, 26, 27, 28, 29, 30, 31, 32, 33, 34, 35, 36, 37, 38, 39, 40, 41, 6, 42, 43, 44, 45, 46, 47, 48, 49, 50, 51, 52, 53, 54, 55, 56, 57, 58, 59, 60, 61, 62, 63, 64, 65, 66, 67, 68, 69, 70, 71, 72, 73, 74, 75, 76, 77, 78, 79, 80, 81, 82, 83, 84, 85, 86, 87, 88, 89, 90, 91, 92, 93, 94, 95, 96, 97, 98, 99, 100, 137, 138, 139, 140, 141, 142, 143, 144, 145, 146, 147, 148, 156, 157, 158, 159, 160, 161, 162, 163, 164, 149, 150, 151, 152, 153, 154, 155] rfl gw_X11_mostNow
set_option maxRecDepth 20000 in
theorem gX11_count_X11_mostNow : GoodIn wsX11_count (wsV RX11 169 RX11 yX11_mostNow wsX11_mostNow) := goodIn_app (goodIn_r _ [13, 14, 15, 16] rfl (gw_V _ _ _ _)) ggX11_count_X11_mostNow
set_option maxRecDepth 20000 in
theorem ggX11_count_X7_countCuts : GoodIn wsX11_count wsX7_countCuts := goodIn_r _ [105, 106, 107, 108, 109, 110, 104, 111, 112, 113, 114, 115, 116, 117, 118, 119, 120, 121, 122, 123, 124, 125, 126, 127, 128, 129, 130, 131, 132, 133, 134, 135, 136, 165, 166, 167, 168, 169, 170, 171, 172, 173, 156, 157, 158, 159, 160, 161, 162, 163, 164, 149, 150, 151, 152, 153, 154, 155] rfl gw_X7_countCuts
set_option maxRecDepth 20000 in
theorem gX11_count_X7_countCuts : GoodIn wsX11_count (wsV RX11 182 RX7 yX7_countCuts wsX7_countCuts) := goodIn_app (goodIn_r _ [101, 102, 103, 104] rfl (gw_V _ _ _ _)) ggX11_count_X7_countCuts
set_option maxRecDepth 20000 in
theorem ggX11_next_X3_hasPair : GoodIn wsX11_next wsX3_hasPair := goodIn_r _ [7, 8, 9, 10, 6, 11, 12, 148, 149, 150, 151, 152, 153, 154] rfl gw_X3_hasPair
set_option maxRecDepth 20000 in
theorem gX11_next_X3_hasPair : GoodIn wsX11_next (wsV RX11 135 RX3 yX3_hasPair wsX3_hasPair) := goodIn_app (goodIn_r _ [3, 4, 5, 6] rfl (gw_V _ _ _ _)) ggX11_next_X3_hasPair
set_option maxRecDepth 20000 in
theorem ggX11_next_X11_mostNow : GoodIn wsX11_next wsX11_mostNow := goodIn_r _ [17, 18, 19, 20, 21, 22, 23, 24, 25, 26, 27, 28, 29, 30, 31, 32, 33, 34, 35, 36, 37, 38, 39, 40, 41, 6, 42, 43, 44, 45, 46, 47, 48, 49, 50, 51, 52, 53, 54, 55, 56, 57, 58, 59, 60, 61, 62, 63, 64, 65, 66, 67, 68, 69, 70, 71, 72, 73, 74, 75, 76, 77, 78, 79, 80, 81, 82, 83, 84, 85, 86, 87, 88, 89, 90, 91, 92, 93, 94, 95, 96, 97, 98, 99, 100, 136, 137, 138, 139, 140, 141, 142, 143, 144, 145, 146, 147, 155, 156, 157, 158, 159, 160, 161, 162, 163, 148, 149, 150, 151, 152, 153, 154] rfl gw_X11_mostNow
set_option maxRecDepth 20000 in
theorem gX11_next_X11_mostNow : GoodIn wsX11_next (wsV RX11 169 RX11 yX11_mostNow wsX11_mostNow) := goodIn_app (goodIn_r _ [13, 14, 15, 16] rfl (gw_V _ _ _ _)) ggX11_next_X11_mostNow
set_option maxRecDepth 20000 in
theorem ggX11_next_X7_findCut : GoodIn wsX11_next wsX7_findCut := goodIn_r _ [105, 106, 107, 108, 109, 104, 110, 111, 112, 113, 114, 115, 116, 117, 118, 119, 120, 121, 122, 123, 124, 125, 126, 127, 128, 129, 130, 131, 132, 133, 134, 135, 164, 165, 166, 167, 168, 169, 170, 171, 172, 155, 156, 157, 158, 159, 160, 161, 162, 163, 148, 149, 150, 151, 152, 153, 154] rfl gw_X7_findCut
set_option maxRecDepth 20000 in
theorem gX11_next_X7_findCut : GoodIn wsX11_next (wsV RX11 186 RX7 yX7_findCut wsX7_findCut) := goodIn_app (goodIn_r _ [101, 102, 103, 104] rfl (gw_V _ _ _ _)) ggX11_next_X7_findCut
set_option maxRecDepth 20000 in
theorem ggX11_size_X3_hasPair : GoodIn wsX11_size wsX3_hasPair := goodIn_r _ [8, 9, 10, 11, 7, 12, 13, 83, 84, 85, 86, 87, 88, 89] rfl gw_X3_hasPair
set_option maxRecDepth 20000 in
theorem gX11_size_X3_hasPair : GoodIn wsX11_size (wsV RX11 135 RX3 yX3_hasPair wsX3_hasPair) := goodIn_app (goodIn_r _ [4, 5, 6, 7] rfl (gw_V _ _ _ _)) ggX11_size_X3_hasPair
set_option maxRecDepth 20000 in
theorem ggX11_size_X0_load : GoodIn wsX11_size wsX0_load := goodIn_r _ [18, 19, 20, 21, 22, 23, 24, 25, 26, 27, 28, 29, 30, 31, 32, 33, 34, 35, 36, 7, 37, 38, 39, 40, 41, 42, 43, 44, 45, 46, 47, 48, 49, 50, 51, 52, 53, 54, 55, 56, 57, 58, 59, 60, 17, 61, 62, 90, 91, 92, 93, 94, 95, 96, 97, 98, 83, 84, 85, 86, 87, 88, 89] rfl gw_X0_load
set_option maxRecDepth 20000 in
theorem gX11_size_X0_load : GoodIn wsX11_size (wsV RX11 190 RX0 yX0_load wsX0_load) := goodIn_app (goodIn_r _ [14, 15, 16, 17] rfl (gw_V _ _ _ _)) ggX11_size_X0_load
set_option maxRecDepth 20000 in
theorem ggX11_size_X0_leaving : GoodIn wsX11_size wsX0_leaving := goodIn_r _ [66, 19, 20, 67, 68, 69, 17, 70, 21, 90, 91, 92, 93, 94, 95, 96, 97, 98, 83, 84, 85, 86, 87, 88, 89] rfl gw_X0_leaving
set_option maxRecDepth 20000 in
theorem gX11_size_X0_leaving : GoodIn wsX11_size (wsV RX11 194 RX0 yX0_leaving wsX0_leaving) := goodIn_app (goodIn_r _ [63, 64, 65, 17] rfl (gw_V _ _ _ _)) ggX11_size_X0_leaving
set_option maxRecDepth 20000 in
theorem ggX11_raise_X3_hasPair : GoodIn wsX11_raise wsX3_hasPair := goodIn_r _ [7, 8, 9, 10, 6, 11, 12, 113, 114, 115, 116, 117, 118, 119] rfl gw_X3_hasPair
set_option maxRecDepth 20000 in
theorem gX11_raise_X3_hasPair : GoodIn wsX11_raise (wsV RX11 135 RX3 yX3_hasPair wsX3_hasPair) := goodIn_app (goodIn_r _ [3, 4, 5, 6] rfl (gw_V _ _ _ _)) ggX11_raise_X3_hasPair
set_option maxRecDepth 20000 in
theorem ggX11_raise_X3_hasLine : GoodIn wsX11_raise wsX3_hasLine := goodIn_r _ [16, 17, 113, 114, 115, 116, 117, 118, 119] rfl gw_X3_hasLine
set_option maxRecDepth 20000 in
theorem gX11_raise_X3_hasLine : GoodIn wsX11_raise (wsV RX11 112 RX3 yX3_hasLine wsX3_hasLine) := goodIn_app (goodIn_r _ [13, 14, 15, 6] rfl (gw_V _ _ _ _)) ggX11_raise_X3_hasLine
set_option maxRecDepth 20000 in
theorem ggX11_raise_X3_isMissing : GoodIn wsX11_raise wsX3_isMissing := goodIn_r _ [21, 22, 113, 114, 115, 116, 117, 118, 119] rfl gw_X3_isMissing
set_option maxRecDepth 20000 in
theorem gX11_raise_X3_isMissing : GoodIn wsX11_raise (wsV RX11 126 RX3 yX3_isMissing wsX3_isMissing) := goodIn_app (goodIn_r _ [18, 19, 20, 6] rfl (gw_V _ _ _ _)) ggX11_raise_X3_isMissing
set_option maxRecDepth 20000 in
theorem ggX11_raise_X0_load : GoodIn wsX11_raise wsX0_load := goodIn_r _ [27, 28, 29, 30, 31, 32, 33, 34, 35, 36, 37, 38, 39, 40, 41, 42, 43, 19, 20, 6, 21, 22, 44, 45, 46, 47, 48, 49, 50, 51, 52, 53, 54, 55, 56, 57, 58, 59, 60, 61, 62, 63, 64, 65, 26, 66, 67, 120, 121, 122, 123, 124, 125, 126, 127, 128, 113, 114, 115, 116, 117, 118, 119] rfl gw_X0_load
set_option maxRecDepth 20000 in
theorem gX11_raise_X0_load : GoodIn wsX11_raise (wsV RX11 190 RX0 yX0_load wsX0_load) := goodIn_app (goodIn_r _ [23, 24, 25, 26] rfl (gw_V _ _ _ _)) ggX11_raise_X0_load
set_option maxRecDepth 20000 in
theorem ggX11_raise_X0_fill : GoodIn wsX11_raise wsX0_fill := goodIn_r _ [71, 72, 28, 29, 30, 73, 74, 75, 76, 77, 67, 39, 40, 41, 42, 78, 79, 80, 26, 81, 82, 83, 84, 85, 86, 87, 88, 89, 90, 91, 92, 93, 94, 95, 96, 97, 98, 99, 100, 31, 37, 38, 35, 36, 120, 121, 122, 123, 124, 125, 126, 127, 128, 113, 114, 115, 116, 117, 118, 119] rfl gw_X0_fill
set_option maxRecDepth 20000 in
theorem gX11_raise_X0_fill : GoodIn wsX11_raise (wsV RX11 198 RX0 yX0_fill wsX0_fill) := goodIn_app (goodIn_r _ [68, 69, 70, 26] rfl (gw_V _ _ _ _)) ggX11_raise_X0_fill
set_option maxRecDepth 20000 in
theorem ggX11_cheapest_X3_hasPair : GoodIn wsX11_cheapest wsX3_hasPair := goodIn_r _ [7, 8, 9, 10, 6, 11, 12, 183, 184, 185, 186, 187, 188, 189] rfl gw_X3_hasPair
set_option maxRecDepth 20000 in
theorem gX11_cheapest_X3_hasPair : GoodIn wsX11_cheapest (wsV RX11 135 RX3 yX3_hasPair wsX3_hasPair) := goodIn_app (goodIn_r _ [3, 4, 5, 6] rfl (gw_V _ _ _ _)) ggX11_cheapest_X3_hasPair
set_option maxRecDepth 20000 in
theorem ggX11_cheapest_X11_mostNow : GoodIn wsX11_cheapest wsX11_mostNow := goodIn_r _ [17, 18, 19, 20, 21, 22, 23, 24, 25, 26, 27, 28, 29, 30, 31, 32, 33, 34, 35, 36, 37, 38, 39, 40, 41, 6, 42, 43, 44, 45, 46, 47, 48, 49, 50, 51, 52, 53, 54, 55, 56, 57, 58, 59, 60, 61, 62, 63, 64, 65, 66, 67, 68, 69, 70, 71, 72, 73, 74, 75, 76, 77, 78, 79, 80, 81, 82, 83, 84, 85, 86, 87, 88, 89, 90, 91, 92, 93, 94, 95, 96, 97, 98, 99, 100, 171, 172, 173, 174, 175, 176, 177, 178, 179, 180, 181, 182, 190, 191, 192, 193, 194, 195, 196, 197, 198, 183, 184, 185, 186, 187, 188, 189] rfl gw_X11_mostNow
set_option maxRecDepth 20000 in
theorem gX11_cheapest_X11_mostNow : GoodIn wsX11_cheapest (wsV RX11 169 RX11 yX11_mostNow wsX11_mostNow) := goodIn_app (goodIn_r _ [13, 14, 15, 16] rfl (gw_V _ _ _ _)) ggX11_cheapest_X11_mostNow
set_option maxRecDepth 20000 in
theorem ggX11_cheapest_X10_pay : GoodIn wsX11_cheapest wsX10_pay := goodIn_r _ [105, 106, 107, 108, 109, 110, 104, 111, 112, 113, 114, 115, 116, 117, 118, 119, 120, 121, 122, 94, 95, 96, 123, 36, 37, 38, 124, 125, 126, 127, 128, 129, 130, 131, 132, 133, 48, 134, 135, 136, 137, 138, 139, 140, 141, 142, 143, 144, 40, 41, 6, 42, 43, 145, 146, 147, 148, 149, 150, 151, 152, 153, 154, 155, 156, 157, 158, 159, 160, 161, 162, 163, 164, 165, 166, 167, 168, 169, 170, 199, 200, 201, 202, 203, 190, 191, 192, 193, 194, 195, 196, 197, 198, 183, 184, 185, 186, 187, 188, 189] rfl gw_X10_pay
set_option maxRecDepth 20000 in
theorem gX11_cheapest_X10_pay : GoodIn wsX11_cheapest (wsV RX11 201 RX10 yX10_pay wsX10_pay) := goodIn_app (goodIn_r _ [101, 102, 103, 104] rfl (gw_V _ _ _ _)) ggX11_cheapest_X10_pay
set_option maxRecDepth 20000 in
theorem ggX11_tree_X3_isWhole : GoodIn wsX11_tree wsX3_isWhole := goodIn_r _ [9, 10, 11, 12, 13, 14, 15, 8, 16, 17, 134, 135, 136, 137, 138, 139, 140] rfl gw_X3_isWhole
set_option maxRecDepth 20000 in
theorem gX11_tree_X3_isWhole : GoodIn wsX11_tree (wsV RX11 204 RX3 yX3_isWhole wsX3_isWhole) := goodIn_app (goodIn_r _ [5, 6, 7, 8] rfl (gw_V _ _ _ _)) ggX11_tree_X3_isWhole
set_option maxRecDepth 20000 in
theorem ggX11_tree_X3_hasPlace : GoodIn wsX11_tree wsX3_hasPlace := goodIn_r _ [21, 12, 134, 135, 136, 137, 138, 139, 140] rfl gw_X3_hasPlace
set_option maxRecDepth 20000 in
theorem gX11_tree_X3_hasPlace : GoodIn wsX11_tree (wsV RX11 208 RX3 yX3_hasPlace wsX3_hasPlace) := goodIn_app (goodIn_r _ [18, 19, 20, 8] rfl (gw_V _ _ _ _)) ggX11_tree_X3_hasPlace
set_option maxRecDepth 20000 in
theorem ggX11_tree_X1_grow : GoodIn wsX11_tree wsX1_grow := goodIn_r _ [26, 27, 28, 29, 30, 31, 32, 33, 34, 35, 36, 37, 38, 39, 40, 41, 42, 43, 44, 45, 46, 47, 48, 49, 50, 51, 52, 14, 15, 8, 16, 17, 53, 54, 55, 56, 57, 58, 59, 60, 61, 62, 63, 64, 65, 66, 67, 68, 69, 70, 71, 72, 73, 74, 75, 76, 77, 78, 79, 80, 25, 81, 82, 83, 84, 85, 86, 87, 88, 89, 90, 91, 92, 93, 94, 95, 96, 97, 98, 99, 100, 101, 102, 103, 104, 105, 106, 107, 108, 109, 110, 111, 112, 113, 114, 115, 116, 117, 118, 131, 132, 133, 141, 142, 143, 144, 145, 146, 147, 148, 149, 134, 135, 136, 137, 138, 139, 140] rfl gw_X1_grow
set_option maxRecDepth 20000 in
theorem gX11_tree_X1_grow : GoodIn wsX11_tree (wsV RX11 212 RX1 yX1_grow wsX1_grow) := goodIn_app (goodIn_r _ [22, 23, 24, 25] rfl (gw_V _ _ _ _)) ggX11_tree_X1_grow
set_option maxRecDepth 20000 in
theorem ggX11_between_X3_isWhole : GoodIn wsX11_between wsX3_isWhole := goodIn_r _ [7, 8, 9, 10, 11, 12, 13, 6, 14, 15, 143, 144, 145, 146, 147, 148, 149] rfl gw_X3_isWhole
set_option maxRecDepth 20000 in
theorem gX11_between_X3_isWhole : GoodIn wsX11_between (wsV RX11 204 RX3 yX3_isWhole wsX3_isWhole) := goodIn_app (goodIn_r _ [3, 4, 5, 6] rfl (gw_V _ _ _ _)) ggX11_between_X3_isWhole
set_option maxRecDepth 20000 in
theorem ggX11_between_X3_hasPair : GoodIn wsX11_between wsX3_hasPair := goodIn_r _ [19, 20, 21, 22, 6, 23, 10, 143, 144, 145, 146, 147, 148, 149] rfl gw_X3_hasPair
set_option maxRecDepth 20000 in
theorem gX11_between_X3_hasPair : GoodIn wsX11_between (wsV RX11 135 RX3 yX3_hasPair wsX3_hasPair) := goodIn_app (goodIn_r _ [16, 17, 18, 6] rfl (gw_V _ _ _ _)) ggX11_between_X3_hasPair
set_option maxRecDepth 20000 in
theorem ggX11_between_X1_grow : GoodIn wsX11_between wsX1_grow := goodIn_r _ [28, 29, 30, 31, 32, 33, 34, 35, 36, 37, 38, 39, 40, 41, 42, 43, 44, 45, 46, 47, 48, 49, 50, 51, 52, 53, 54, 12, 13, 6, 14, 15, 55, 56, 57, 58, 59, 60, 61, 62, 63, 64, 65, 66, 67, 68, 69, 70, 71, 72, 73, 74, 75, 76, 77, 78, 79, 80, 81, 82, 27, 83, 84, 85, 86, 87, 88, 89, 90, 91, 92, 93, 94, 95, 96, 97, 98, 99, 100, 101, 102, 103, 104, 105, 106, 107, 108, 109, 110, 111, 112, 113, 114, 115, 116, 117, 118, 119, 120, 150, 151, 152, 153, 154, 155, 156, 157, 158, 159, 160, 161, 143, 144, 145, 146, 147, 148, 149] rfl gw_X1_grow
set_option maxRecDepth 20000 in
theorem gX11_between_X1_grow : GoodIn wsX11_between (wsV RX11 212 RX1 yX1_grow wsX1_grow) := goodIn_app (goodIn_r _ [24, 25, 26, 27] rfl (gw_V _ _ _ _)) ggX11_between_X1_grow
set_option maxRecDepth 20000 in
theorem ggX11_between_X1_leastOnWay : GoodIn wsX11_between wsX1_leastOnWay := goodIn_r _ [124, 125, 31, 126, 110, 111, 112, 30, 127, 128, 129, 27, 130, 150, 151, 152] rfl gw_X1_leastOnWay
set_option maxRecDepth 20000 in
theorem gX11_between_X1_leastOnWay : GoodIn wsX11_between (wsV RX11 221 RX1 yX1_leastOnWay wsX1_leastOnWay) := goodIn_app (goodIn_r _ [121, 122, 123, 27] rfl (gw_V _ _ _ _)) ggX11_between_X1_leastOnWay
set_option maxRecDepth 20000 in
theorem ggX11_least_X3_isWhole : GoodIn wsX11_least wsX3_isWhole := goodIn_r _ [7, 8, 9, 10, 11, 12, 13, 6, 14, 15, 131, 132, 133, 134, 135, 136, 137] rfl gw_X3_isWhole
set_option maxRecDepth 20000 in
theorem gX11_least_X3_isWhole : GoodIn wsX11_least (wsV RX11 204 RX3 yX3_isWhole wsX3_isWhole) := goodIn_app (goodIn_r _ [3, 4, 5, 6] rfl (gw_V _ _ _ _)) ggX11_least_X3_isWhole
set_option maxRecDepth 20000 in
theorem ggX11_least_X1_grow : GoodIn wsX11_least wsX1_grow := goodIn_r _ [20, 21, 22, 23, 24, 25, 26, 27, 28, 29, 30, 31, 32, 33, 34, 35, 36, 37, 38, 39, 40, 41, 42, 43, 44, 45, 46, 12, 13, 6, 14, 15, 47, 48, 49, 50, 51, 52, 53, 54, 55, 56, 57, 58, 59, 60, 61, 62, 63, 64, 65, 66, 67, 68, 69, 70, 71, 72, 73, 74, 19, 75, 76, 77, 78, 79, 80, 81, 82, 83, 84, 85, 86, 87, 88, 89, 90, 91, 92, 93, 94, 95, 96, 97, 98, 99, 100, 101, 102, 103, 104, 105, 106, 107, 108, 109, 110, 111, 112, 138, 139, 140, 141, 142, 143, 144, 145, 146, 147, 148, 149, 131, 132, 133, 134, 135, 136, 137] rfl gw_X1_grow
set_option maxRecDepth 20000 in
theorem gX11_least_X1_grow : GoodIn wsX11_least (wsV RX11 212 RX1 yX1_grow wsX1_grow) := goodIn_app (goodIn_r _ [16, 17, 18, 19] rfl (gw_V _ _ _ _)) ggX11_least_X1_grow
set_option maxRecDepth 20000 in
theorem ggX11_least_X1_leastNumber : GoodIn wsX11_least wsX1_leastNumber := goodIn_r _ [116, 117, 21, 24, 25, 23, 118, 102, 103, 104, 138, 139, 140, 141, 142, 143, 144, 145, 146, 147, 148, 149, 131, 132, 133, 134, 135, 136, 137] rfl gw_X1_leastNumber
set_option maxRecDepth 20000 in
theorem gX11_least_X1_leastNumber : GoodIn wsX11_least (wsV RX11 224 RX1 yX1_leastNumber wsX1_leastNumber) := goodIn_app (goodIn_r _ [113, 114, 115, 19] rfl (gw_V _ _ _ _)) ggX11_least_X1_leastNumber
set_option maxRecDepth 20000 in
theorem ggX11_cuts_X3_isWhole : GoodIn wsX11_cuts wsX3_isWhole := goodIn_r _ [8, 9, 10, 11, 12, 13, 14, 7, 15, 16, 168, 169, 170, 171, 172, 173, 174] rfl gw_X3_isWhole
