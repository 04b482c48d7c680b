theorem gw_V (own : String) (idx : Nat) (C : String) (y : MethodName) : ([.methodLink own idx y, .instanceMethod y, .selects C y y, .initialized C] : List Cond).all goodWord = true := by first | exact rfl | simp [goodWord, Cond.onTables, Cond.keeps, Cond.steady]
theorem gw_S (own : String) (idx : Nat) (y : MethodName) : ([.methodLink own idx y, .static y, .initialized y.cls] : List Cond).all goodWord = true := by first | exact rfl | simp [goodWord, Cond.onTables, Cond.keeps, Cond.steady]
set_option maxRecDepth 20000 in
theorem gw_J7_fill_53178 : wsJ7_fill_53178.all goodWord = true := by decide +kernel
set_option maxRecDepth 20000 in
theorem gw_X3_isMissing : wsX3_isMissing.all goodWord = true := by decide +kernel
set_option maxRecDepth 20000 in
theorem gw_X6_lets : wsX6_lets.all goodWord = true := by decide +kernel
set_option maxRecDepth 20000 in
theorem gw_X5_lets : wsX5_lets.all goodWord = true := by decide +kernel
set_option maxRecDepth 20000 in
theorem gw_X9_lets : wsX9_lets.all goodWord = true := by decide +kernel
set_option maxRecDepth 20000 in
theorem gw_X0_asRoom : wsX0_asRoom.all goodWord = true := by decide +kernel
set_option maxRecDepth 20000 in
theorem gw_X0_reachedFrom : wsX0_reachedFrom.all goodWord = true := by decide +kernel
set_option maxRecDepth 20000 in
theorem gw_X0_findWay : wsX0_findWay.all goodWord = true := by decide +kernel
set_option maxRecDepth 20000 in
theorem gw_X0_sendAlongWay : wsX0_sendAlongWay.all goodWord = true := by decide +kernel
set_option maxRecDepth 20000 in
theorem gw_X0_sendOver : wsX0_sendOver.all goodWord = true := by decide +kernel
set_option maxRecDepth 20000 in
theorem gw_X0_reaching : wsX0_reaching.all goodWord = true := by decide +kernel
set_option maxRecDepth 20000 in
theorem gw_X0_betweenSets : wsX0_betweenSets.all goodWord = true := by decide +kernel
set_option maxRecDepth 20000 in
theorem gw_X0_load : wsX0_load.all goodWord = true := by decide +kernel
set_option maxRecDepth 20000 in
theorem gw_X1_hang : wsX1_hang.all goodWord = true := by decide +kernel
set_option maxRecDepth 20000 in
theorem gw_X0_fill : wsX0_fill.all goodWord = true := by decide +kernel
set_option maxRecDepth 20000 in
theorem gw_X0_nearCut : wsX0_nearCut.all goodWord = true := by decide +kernel
set_option maxRecDepth 20000 in
theorem gw_X1_stepsToRoot : wsX1_stepsToRoot.all goodWord = true := by decide +kernel
set_option maxRecDepth 20000 in
theorem gw_X1_leastOnWay : wsX1_leastOnWay.all goodWord = true := by decide +kernel
set_option maxRecDepth 20000 in
theorem gw_X1_leastAlike : wsX1_leastAlike.all goodWord = true := by decide +kernel
set_option maxRecDepth 20000 in
theorem gw_X6_init : wsX6_init.all goodWord = true := by decide +kernel
set_option maxRecDepth 20000 in
theorem gw_X3_hasPlace : wsX3_hasPlace.all goodWord = true := by decide +kernel
set_option maxRecDepth 20000 in
theorem gw_X3_renumbered : wsX3_renumbered.all goodWord = true := by decide +kernel
set_option maxRecDepth 20000 in
theorem gw_X4_number : wsX4_number.all goodWord = true := by decide +kernel
set_option maxRecDepth 20000 in
theorem gw_X4_isThere : wsX4_isThere.all goodWord = true := by decide +kernel
set_option maxRecDepth 20000 in
theorem gw_X4_hasRow : wsX4_hasRow.all goodWord = true := by decide +kernel
set_option maxRecDepth 20000 in
theorem gw_X4_hasNumbers : wsX4_hasNumbers.all goodWord = true := by decide +kernel
set_option maxRecDepth 20000 in
theorem gw_X6_letsMark : wsX6_letsMark.all goodWord = true := by decide +kernel
set_option maxRecDepth 20000 in
theorem gw_X7_hunt : wsX7_hunt.all goodWord = true := by decide +kernel
set_option maxRecDepth 20000 in
theorem gw_X7_chooseForCut : wsX7_chooseForCut.all goodWord = true := by decide +kernel
set_option maxRecDepth 20000 in
theorem gw_X7_meet : wsX7_meet.all goodWord = true := by decide +kernel
set_option maxRecDepth 20000 in
theorem gw_X7_letIn : wsX7_letIn.all goodWord = true := by decide +kernel
set_option maxRecDepth 20000 in
theorem gw_X7_letOut : wsX7_letOut.all goodWord = true := by decide +kernel
set_option maxRecDepth 20000 in
theorem gw_X7_chooseForDense : wsX7_chooseForDense.all goodWord = true := by decide +kernel
set_option maxRecDepth 20000 in
theorem gw_X7_compareDense : wsX7_compareDense.all goodWord = true := by decide +kernel
set_option maxRecDepth 20000 in
theorem gw_J6_bitCount_0f7a4 : wsJ6_bitCount_0f7a4.all goodWord = true := by decide +kernel
set_option maxRecDepth 20000 in
theorem gw_X2_init : wsX2_init.all goodWord = true := by decide +kernel
set_option maxRecDepth 20000 in
theorem gw_X2_costs : wsX2_costs.all goodWord = true := by decide +kernel
set_option maxRecDepth 20000 in
theorem gw_X2_costsMark : wsX2_costsMark.all goodWord = true := by decide +kernel
set_option maxRecDepth 20000 in
theorem gw_X10_findPrices : wsX10_findPrices.all goodWord = true := by decide +kernel
set_option maxRecDepth 20000 in
theorem gw_X10_findCosts : wsX10_findCosts.all goodWord = true := by decide +kernel
set_option maxRecDepth 20000 in
theorem gw_X10_roomOfWay : wsX10_roomOfWay.all goodWord = true := by decide +kernel
set_option maxRecDepth 20000 in
theorem gw_X10_sendAlongWay : wsX10_sendAlongWay.all goodWord = true := by decide +kernel
set_option maxRecDepth 20000 in
theorem gw_X6_costs : wsX6_costs.all goodWord = true := by decide +kernel
set_option maxRecDepth 20000 in
theorem gw_X8_costs : wsX8_costs.all goodWord = true := by decide +kernel
set_option maxRecDepth 20000 in
theorem gw_X10_lookFrom : wsX10_lookFrom.all goodWord = true := by decide +kernel
set_option maxRecDepth 20000 in
theorem gw_X10_stepCosts : wsX10_stepCosts.all goodWord = true := by decide +kernel
set_option maxRecDepth 20000 in
theorem gw_X10_stepRoom : wsX10_stepRoom.all goodWord = true := by decide +kernel
set_option maxRecDepth 20000 in
theorem gw_X5_init : wsX5_init.all goodWord = true := by decide +kernel
set_option maxRecDepth 20000 in
theorem gw_X9_init : wsX9_init.all goodWord = true := by decide +kernel
set_option maxRecDepth 20000 in
theorem gw_X8_init : wsX8_init.all goodWord = true := by decide +kernel
set_option maxRecDepth 20000 in
theorem gw_X3_init : wsX3_init.all goodWord = true := by decide +kernel
set_option maxRecDepth 20000 in
theorem gw_X0_init : wsX0_init.all goodWord = true := by decide +kernel
set_option maxRecDepth 20000 in
theorem gw_X7_init : wsX7_init.all goodWord = true := by decide +kernel
set_option maxRecDepth 20000 in
theorem gw_X1_init : wsX1_init.all goodWord = true := by decide +kernel
set_option maxRecDepth 20000 in
theorem gw_X10_init : wsX10_init.all goodWord = true := by decide +kernel
set_option maxRecDepth 20000 in
theorem gw_X4_init : wsX4_init.all goodWord = true := by decide +kernel
set_option maxRecDepth 20000 in
theorem gw_X11_remember : wsX11_remember.all goodWord = true := by decide +kernel
set_option maxRecDepth 20000 in
theorem gw_X11_lineRefusal : wsX11_lineRefusal.all goodWord = true := by decide +kernel
set_option maxRecDepth 20000 in
theorem gw_X6_beginsMark : wsX6_beginsMark.all goodWord = true := by decide +kernel
set_option maxRecDepth 20000 in
theorem gw_X8_beginsMark : wsX8_beginsMark.all goodWord = true := by decide +kernel
set_option maxRecDepth 20000 in
theorem gw_X11_addLine : wsX11_addLine.all goodWord = true := by decide +kernel
set_option maxRecDepth 20000 in
theorem gw_X3_hasLine : wsX3_hasLine.all goodWord = true := by decide +kernel
set_option maxRecDepth 20000 in
theorem gw_X6_costsMark : wsX6_costsMark.all goodWord = true := by decide +kernel
set_option maxRecDepth 20000 in
theorem gw_X8_costsMark : wsX8_costsMark.all goodWord = true := by decide +kernel
set_option maxRecDepth 20000 in
theorem gw_X3_hasPair : wsX3_hasPair.all goodWord = true := by decide +kernel
set_option maxRecDepth 20000 in
theorem gw_X3_join : wsX3_join.all goodWord = true := by decide +kernel
set_option maxRecDepth 20000 in
theorem gw_X3_become : wsX3_become.all goodWord = true := by decide +kernel
set_option maxRecDepth 20000 in
theorem gw_X5_letsMark : wsX5_letsMark.all goodWord = true := by decide +kernel
set_option maxRecDepth 20000 in
theorem gw_X9_letsMark : wsX9_letsMark.all goodWord = true := by decide +kernel
set_option maxRecDepth 20000 in
theorem gw_X11_mostNow : wsX11_mostNow.all goodWord = true := by decide +kernel
set_option maxRecDepth 20000 in
theorem gw_X0_farCut : wsX0_farCut.all goodWord = true := by decide +kernel
set_option maxRecDepth 20000 in
theorem gw_X7_countCuts : wsX7_countCuts.all goodWord = true := by decide +kernel
set_option maxRecDepth 20000 in
theorem gw_X7_findCut : wsX7_findCut.all goodWord = true := by decide +kernel
set_option maxRecDepth 20000 in
theorem gw_X0_leaving : wsX0_leaving.all goodWord = true := by decide +kernel
set_option maxRecDepth 20000 in
theorem gw_X10_pay : wsX10_pay.all goodWord = true := by decide +kernel
set_option maxRecDepth 20000 in
theorem gw_X3_isWhole : wsX3_isWhole.all goodWord = true := by decide +kernel
set_option maxRecDepth 20000 in
theorem gw_X1_grow : wsX1_grow.all goodWord = true := by decide +kernel
set_option maxRecDepth 20000 in
theorem gw_X1_leastNumber : wsX1_leastNumber.all goodWord = true := by decide +kernel
set_option maxRecDepth 20000 in
theorem gw_X1_partsBelow : wsX1_partsBelow.all goodWord = true := by decide +kernel
set_option maxRecDepth 20000 in
theorem gw_X7_findDensest : wsX7_findDensest.all goodWord = true := by decide +kernel
set_option maxRecDepth 20000 in
theorem gw_X11_mapRefusal : wsX11_mapRefusal.all goodWord = true := by decide +kernel
set_option maxRecDepth 20000 in
theorem gw_X4_begin : wsX4_begin.all goodWord = true := by decide +kernel
set_option maxRecDepth 20000 in
theorem gw_X11_rowRefusal : wsX11_rowRefusal.all goodWord = true := by decide +kernel
set_option maxRecDepth 20000 in
theorem gw_X4_beginRow : wsX4_beginRow.all goodWord = true := by decide +kernel
set_option maxRecDepth 20000 in
theorem gw_X11_numberRefusal : wsX11_numberRefusal.all goodWord = true := by decide +kernel
set_option maxRecDepth 20000 in
theorem gw_X4_store : wsX4_store.all goodWord = true := by decide +kernel
set_option maxRecDepth 20000 in
theorem gw_X11_isMapNumber : wsX11_isMapNumber.all goodWord = true := by decide +kernel
set_option maxRecDepth 20000 in
theorem gw_X4_moveRefusal : wsX4_moveRefusal.all goodWord = true := by decide +kernel
set_option maxRecDepth 20000 in
theorem gw_X4_move : wsX4_move.all goodWord = true := by decide +kernel
set_option maxRecDepth 20000 in
theorem gw_X11_readRefusal : wsX11_readRefusal.all goodWord = true := by decide +kernel
set_option maxRecDepth 20000 in
theorem gw_X4_whole : wsX4_whole.all goodWord = true := by decide +kernel
set_option maxRecDepth 20000 in
theorem gw_X3_missingLines : wsX3_missingLines.all goodWord = true := by decide +kernel
set_option maxRecDepth 20000 in
theorem gw_X6_begins : wsX6_begins.all goodWord = true := by decide +kernel
set_option maxRecDepth 20000 in
theorem gw_X8_begins : wsX8_begins.all goodWord = true := by decide +kernel
set_option maxRecDepth 20000 in
theorem gw_X3_append : wsX3_append.all goodWord = true := by decide +kernel
set_option maxRecDepth 20000 in
theorem gw_X11_isMapKind : wsX11_isMapKind.all goodWord = true := by decide +kernel
set_option maxRecDepth 20000 in
theorem gw_X12_in : wsX12_in.all goodWord = true := by decide +kernel
set_option maxRecDepth 20000 in
theorem gw_X12_isPlace : wsX12_isPlace.all goodWord = true := by decide +kernel
set_option maxRecDepth 20000 in
theorem gw_X12_keeps : wsX12_keeps.all goodWord = true := by decide +kernel
set_option maxRecDepth 20000 in
theorem gw_X12_refused : wsX12_refused.all goodWord = true := by decide +kernel
set_option maxRecDepth 20000 in
theorem gw_X12_adds : wsX12_adds.all goodWord = true := by decide +kernel
set_option maxRecDepth 20000 in
theorem gw_X12_isLine : wsX12_isLine.all goodWord = true := by decide +kernel
set_option maxRecDepth 20000 in
theorem gw_X12_costs : wsX12_costs.all goodWord = true := by decide +kernel
set_option maxRecDepth 20000 in
theorem gw_X12_costsTrace : wsX12_costsTrace.all goodWord = true := by decide +kernel
set_option maxRecDepth 20000 in
theorem gw_X12_arePlaces : wsX12_arePlaces.all goodWord = true := by decide +kernel
set_option maxRecDepth 20000 in
theorem gw_X12_lets : wsX12_lets.all goodWord = true := by decide +kernel
set_option maxRecDepth 20000 in
theorem gw_X12_room : wsX12_room.all goodWord = true := by decide +kernel
set_option maxRecDepth 20000 in
theorem gw_X12_sizeOf : wsX12_sizeOf.all goodWord = true := by decide +kernel
set_option maxRecDepth 20000 in
theorem gw_X12_mostOf : wsX12_mostOf.all goodWord = true := by decide +kernel
set_option maxRecDepth 20000 in
theorem gw_X12_asTold : wsX12_asTold.all goodWord = true := by decide +kernel
set_option maxRecDepth 20000 in
theorem gw_X12_left : wsX12_left.all goodWord = true := by decide +kernel
set_option maxRecDepth 20000 in
theorem gw_X12_isMet : wsX12_isMet.all goodWord = true := by decide +kernel
set_option maxRecDepth 20000 in
theorem gw_X12_leftOf : wsX12_leftOf.all goodWord = true := by decide +kernel
set_option maxRecDepth 20000 in
theorem gw_X12_hasWay : wsX12_hasWay.all goodWord = true := by decide +kernel
set_option maxRecDepth 20000 in
theorem gw_X12_flowOf : wsX12_flowOf.all goodWord = true := by decide +kernel
set_option maxRecDepth 20000 in
theorem gw_X12_bitsOf : wsX12_bitsOf.all goodWord = true := by decide +kernel
set_option maxRecDepth 20000 in
theorem gw_X12_cutsOf : wsX12_cutsOf.all goodWord = true := by decide +kernel
set_option maxRecDepth 20000 in
theorem gw_X12_step : wsX12_step.all goodWord = true := by decide +kernel
set_option maxRecDepth 20000 in
theorem gw_X12_cheapWay : wsX12_cheapWay.all goodWord = true := by decide +kernel
set_option maxRecDepth 20000 in
theorem gw_X12_amount : wsX12_amount.all goodWord = true := by decide +kernel
set_option maxRecDepth 20000 in
theorem gw_X12_isWhole : wsX12_isWhole.all goodWord = true := by decide +kernel
set_option maxRecDepth 20000 in
theorem gw_X12_plants : wsX12_plants.all goodWord = true := by decide +kernel
set_option maxRecDepth 20000 in
theorem gw_X12_leastOf : wsX12_leastOf.all goodWord = true := by decide +kernel
set_option maxRecDepth 20000 in
theorem gw_X12_wholeCuts : wsX12_wholeCuts.all goodWord = true := by decide +kernel
set_option maxRecDepth 20000 in
theorem gw_X12_no : wsX12_no.all goodWord = true := by decide +kernel
set_option maxRecDepth 20000 in
theorem gw_X12_wrong : wsX12_wrong.all goodWord = true := by decide +kernel
set_option maxRecDepth 20000 in
theorem gw_X12_areThere : wsX12_areThere.all goodWord = true := by decide +kernel
set_option maxRecDepth 20000 in
theorem ggX12_isPlace_X12_in : GoodIn wsX12_isPlace wsX12_in := goodIn_r _ [5] rfl gw_X12_in
set_option maxRecDepth 20000 in
theorem gX12_isPlace_X12_in : GoodIn wsX12_isPlace (va_wsS RX12 91 yX12_in wsX12_in) := goodIn_app (goodIn_r _ [2, 3, 4] rfl (gw_S _ _ _)) ggX12_isPlace_X12_in
set_option maxRecDepth 20000 in
theorem ggX12_isLine_X12_in : GoodIn wsX12_isLine wsX12_in := goodIn_r _ [5] rfl gw_X12_in
set_option maxRecDepth 20000 in
theorem gX12_isLine_X12_in : GoodIn wsX12_isLine (va_wsS RX12 91 yX12_in wsX12_in) := goodIn_app (goodIn_r _ [2, 3, 4] rfl (gw_S _ _ _)) ggX12_isLine_X12_in
set_option maxRecDepth 20000 in
theorem ggX12_arePlaces_X12_isPlace : GoodIn wsX12_arePlaces wsX12_isPlace := goodIn_r _ [5, 6, 7, 8, 4, 9, 10, 11, 12, 13, 14, 15, 16, 17, 18, 19, 20, 21, 22, 23, 24, 25, 26, 27, 28, 29, 30, 31, 32, 33, 34, 35, 36, 37, 38, 39, 40, 41, 42, 43] rfl gw_X12_isPlace
set_option maxRecDepth 20000 in
theorem gX12_arePlaces_X12_isPlace : GoodIn wsX12_arePlaces (wsV RX12 98 RX12 yX12_isPlace wsX12_isPlace) := goodIn_app (goodIn_r _ [1, 2, 3, 4] rfl (gw_V _ _ _ _)) ggX12_arePlaces_X12_isPlace
set_option maxRecDepth 20000 in
theorem ggX12_place_X12_keeps : GoodIn wsX12_place wsX12_keeps := goodIn_r _ [7, 8, 9, 10, 11, 2, 12, 13, 14, 15, 16, 17, 18, 19, 20, 21, 22, 23, 24, 25, 26, 27, 28, 29, 30, 31, 32, 33, 34, 35, 36, 37, 38, 39, 40, 41, 42, 43, 44, 45, 46, 47, 48, 49, 50, 51, 52] rfl gw_X12_keeps
set_option maxRecDepth 20000 in
theorem gX12_place_X12_keeps : GoodIn wsX12_place (wsV RX12 105 RX12 yX12_keeps wsX12_keeps) := goodIn_app (goodIn_r _ [3, 4, 5, 6] rfl (gw_V _ _ _ _)) ggX12_place_X12_keeps
set_option maxRecDepth 20000 in
theorem ggX12_refused_X12_in : GoodIn wsX12_refused wsX12_in := goodIn_r _ [9] rfl gw_X12_in
set_option maxRecDepth 20000 in
theorem gX12_refused_X12_in : GoodIn wsX12_refused (va_wsS RX12 91 yX12_in wsX12_in) := goodIn_app (goodIn_r _ [6, 7, 8] rfl (gw_S _ _ _)) ggX12_refused_X12_in
set_option maxRecDepth 20000 in
theorem ggX12_line_X12_refused : GoodIn wsX12_line wsX12_refused := goodIn_r _ [7, 8, 9, 10, 11, 2, 12, 13, 6, 14, 35, 36, 37, 38, 39, 40, 41, 42, 43, 44, 45, 46, 47, 48, 49, 50, 51, 52, 53, 54, 55, 56, 57, 58, 59, 60, 61, 62, 63, 64, 65, 66, 67, 68] rfl gw_X12_refused
set_option maxRecDepth 20000 in
theorem gX12_line_X12_refused : GoodIn wsX12_line (wsV RX12 120 RX12 yX12_refused wsX12_refused) := goodIn_app (goodIn_r _ [3, 4, 5, 6] rfl (gw_V _ _ _ _)) ggX12_line_X12_refused
set_option maxRecDepth 20000 in
theorem ggX12_line_X12_keeps : GoodIn wsX12_line wsX12_keeps := goodIn_r _ [18, 19, 20, 21, 22, 9, 2, 23, 24, 25, 26, 27, 28, 35, 36, 37, 38, 39, 40, 41, 42, 43, 44, 45, 46, 47, 48, 49, 50, 51, 52, 53, 54, 55, 56, 57, 58, 59, 60, 61, 62, 63, 64, 65, 66, 67, 68] rfl gw_X12_keeps
set_option maxRecDepth 20000 in
theorem gX12_line_X12_keeps : GoodIn wsX12_line (wsV RX12 105 RX12 yX12_keeps wsX12_keeps) := goodIn_app (goodIn_r _ [15, 16, 17, 6] rfl (gw_V _ _ _ _)) ggX12_line_X12_keeps
set_option maxRecDepth 20000 in
theorem ggX12_line_X12_adds : GoodIn wsX12_line wsX12_adds := goodIn_r _ [32, 23, 2, 24, 25, 26, 27, 28, 33, 34, 35, 36, 37, 38, 39, 40, 41, 42, 43, 44, 45, 46, 47, 48, 49, 50, 51, 52, 53, 54, 55, 56, 57, 58, 59, 60, 61, 62, 63, 64, 65, 66, 67, 68] rfl gw_X12_adds
set_option maxRecDepth 20000 in
theorem gX12_line_X12_adds : GoodIn wsX12_line (wsV RX12 124 RX12 yX12_adds wsX12_adds) := goodIn_app (goodIn_r _ [29, 30, 31, 6] rfl (gw_V _ _ _ _)) ggX12_line_X12_adds
set_option maxRecDepth 20000 in
theorem ggX12_widen_X12_isLine : GoodIn wsX12_widen wsX12_isLine := goodIn_r _ [10, 11, 12, 13, 9, 14, 38, 39, 40, 41, 42, 43, 44, 45, 46, 47, 48, 49, 50, 51, 52, 53, 54, 55, 56, 57, 58, 59, 60, 61, 62, 63, 64, 65, 66, 67, 68, 69, 70, 71] rfl gw_X12_isLine
set_option maxRecDepth 20000 in
theorem gX12_widen_X12_isLine : GoodIn wsX12_widen (wsV RX12 132 RX12 yX12_isLine wsX12_isLine) := goodIn_app (goodIn_r _ [6, 7, 8, 9] rfl (gw_V _ _ _ _)) ggX12_widen_X12_isLine
set_option maxRecDepth 20000 in
theorem ggX12_widen_X12_in : GoodIn wsX12_widen wsX12_in := goodIn_r _ [14] rfl gw_X12_in
set_option maxRecDepth 20000 in
theorem gX12_widen_X12_in : GoodIn wsX12_widen (va_wsS RX12 91 yX12_in wsX12_in) := goodIn_app (goodIn_r _ [12, 13, 9] rfl (gw_S _ _ _)) ggX12_widen_X12_in
set_option maxRecDepth 20000 in
theorem ggX12_widen_X12_costs : GoodIn wsX12_widen wsX12_costs := goodIn_r _ [18, 19, 20, 38, 39, 40, 41, 42, 43, 44, 45, 46, 47, 48, 49, 50, 51, 52, 53, 54, 55, 56, 57, 58, 59, 60, 61, 62, 63, 64, 65, 66, 67, 68, 69, 70, 71] rfl gw_X12_costs
set_option maxRecDepth 20000 in
theorem gX12_widen_X12_costs : GoodIn wsX12_widen (wsV RX12 135 RX12 yX12_costs wsX12_costs) := goodIn_app (goodIn_r _ [15, 16, 17, 9] rfl (gw_V _ _ _ _)) ggX12_widen_X12_costs
set_option maxRecDepth 20000 in
theorem ggX12_widen_X12_keeps : GoodIn wsX12_widen wsX12_keeps := goodIn_r _ [24, 25, 26, 27, 28, 29, 11, 19, 30, 31, 4, 20, 3, 38, 39, 40, 41, 42, 43, 44, 45, 46, 47, 48, 49, 50, 51, 52, 53, 54, 55, 56, 57, 58, 59, 60, 61, 62, 63, 64, 65, 66, 67, 68, 69, 70, 71] rfl gw_X12_keeps
set_option maxRecDepth 20000 in
theorem gX12_widen_X12_keeps : GoodIn wsX12_widen (wsV RX12 105 RX12 yX12_keeps wsX12_keeps) := goodIn_app (goodIn_r _ [21, 22, 23, 9] rfl (gw_V _ _ _ _)) ggX12_widen_X12_keeps
set_option maxRecDepth 20000 in
theorem ggX12_widen_X12_costsTrace : GoodIn wsX12_widen wsX12_costsTrace := goodIn_r _ [35, 19, 36, 37, 2, 38, 39, 40, 41, 42, 43, 44, 45, 46, 47, 48, 49, 50, 51, 52, 53, 54, 55, 56, 57, 58, 59, 60, 61, 62, 63, 64, 65, 66, 67, 68, 69, 70, 71] rfl gw_X12_costsTrace
set_option maxRecDepth 20000 in
theorem gX12_widen_X12_costsTrace : GoodIn wsX12_widen (wsV RX12 139 RX12 yX12_costsTrace wsX12_costsTrace) := goodIn_app (goodIn_r _ [32, 33, 34, 9] rfl (gw_V _ _ _ _)) ggX12_widen_X12_costsTrace
set_option maxRecDepth 20000 in
theorem ggX12_width_X12_isLine : GoodIn wsX12_width wsX12_isLine := goodIn_r _ [9, 10, 11, 12, 8, 13, 27, 28, 29, 30, 31, 32, 33, 34, 35, 36, 37, 38, 39, 40, 41, 42, 43, 44, 45, 46, 47, 48, 49, 50, 51, 52, 53, 54, 55, 56, 57, 58, 59, 60] rfl gw_X12_isLine
set_option maxRecDepth 20000 in
theorem gX12_width_X12_isLine : GoodIn wsX12_width (wsV RX12 132 RX12 yX12_isLine wsX12_isLine) := goodIn_app (goodIn_r _ [5, 6, 7, 8] rfl (gw_V _ _ _ _)) ggX12_width_X12_isLine
set_option maxRecDepth 20000 in
theorem ggX12_width_X12_in : GoodIn wsX12_width wsX12_in := goodIn_r _ [13] rfl gw_X12_in
set_option maxRecDepth 20000 in
theorem gX12_width_X12_in : GoodIn wsX12_width (va_wsS RX12 91 yX12_in wsX12_in) := goodIn_app (goodIn_r _ [11, 12, 8] rfl (gw_S _ _ _)) ggX12_width_X12_in
set_option maxRecDepth 20000 in
theorem ggX12_width_X12_keeps : GoodIn wsX12_width wsX12_keeps := goodIn_r _ [17, 18, 19, 20, 21, 22, 10, 23, 24, 25, 4, 26, 3, 27, 28, 29, 30, 31, 32, 33, 34, 35, 36, 37, 38, 39, 40, 41, 42, 43, 44, 45, 46, 47, 48, 49, 50, 51, 52, 53, 54, 55, 56, 57, 58, 59, 60] rfl gw_X12_keeps
set_option maxRecDepth 20000 in
theorem gX12_width_X12_keeps : GoodIn wsX12_width (wsV RX12 105 RX12 yX12_keeps wsX12_keeps) := goodIn_app (goodIn_r _ [14, 15, 16, 8] rfl (gw_V _ _ _ _)) ggX12_width_X12_keeps
set_option maxRecDepth 20000 in
theorem ggX12_merge_X12_arePlaces : GoodIn wsX12_merge wsX12_arePlaces := goodIn_r _ [11, 12, 13, 14, 10, 15, 6, 16, 17, 18, 30, 31, 32, 33, 34, 35, 36, 37, 38, 39, 40, 41, 42, 43, 44, 45, 46, 47, 48, 49, 50, 51, 52, 53, 54, 55, 56, 57, 58, 59, 60, 61, 62, 63] rfl gw_X12_arePlaces
set_option maxRecDepth 20000 in
theorem gX12_merge_X12_arePlaces : GoodIn wsX12_merge (wsV RX12 143 RX12 yX12_arePlaces wsX12_arePlaces) := goodIn_app (goodIn_r _ [7, 8, 9, 10] rfl (gw_V _ _ _ _)) ggX12_merge_X12_arePlaces
set_option maxRecDepth 20000 in
theorem ggX12_merge_X12_keeps : GoodIn wsX12_merge wsX12_keeps := goodIn_r _ [22, 23, 24, 25, 26, 6, 2, 27, 4, 5, 28, 29, 3, 30, 31, 32, 33, 34, 35, 36, 37, 38, 39, 40, 41, 42, 43, 44, 45, 46, 47, 48, 49, 50, 51, 52, 53, 54, 55, 56, 57, 58, 59, 60, 61, 62, 63] rfl gw_X12_keeps
set_option maxRecDepth 20000 in
theorem gX12_merge_X12_keeps : GoodIn wsX12_merge (wsV RX12 105 RX12 yX12_keeps wsX12_keeps) := goodIn_app (goodIn_r _ [19, 20, 21, 10] rfl (gw_V _ _ _ _)) ggX12_merge_X12_keeps
set_option maxRecDepth 20000 in
theorem ggX12_told_X12_isLine : GoodIn wsX12_told wsX12_isLine := goodIn_r _ [13, 14, 15, 16, 12, 17, 18, 19, 20, 21, 22, 23, 24, 25, 26, 27, 28, 29, 30, 31, 32, 33, 34, 35, 36, 37, 38, 39, 40, 41, 42, 43, 44, 45, 46, 47, 48, 49, 50, 51] rfl gw_X12_isLine
set_option maxRecDepth 20000 in
theorem gX12_told_X12_isLine : GoodIn wsX12_told (wsV RX12 132 RX12 yX12_isLine wsX12_isLine) := goodIn_app (goodIn_r _ [9, 10, 11, 12] rfl (gw_V _ _ _ _)) ggX12_told_X12_isLine
set_option maxRecDepth 20000 in
theorem ggX12_told_X12_in : GoodIn wsX12_told wsX12_in := goodIn_r _ [17] rfl gw_X12_in
set_option maxRecDepth 20000 in
theorem gX12_told_X12_in : GoodIn wsX12_told (va_wsS RX12 91 yX12_in wsX12_in) := goodIn_app (goodIn_r _ [15, 16, 12] rfl (gw_S _ _ _)) ggX12_told_X12_in
set_option maxRecDepth 20000 in
theorem ggX12_ask_X12_isLine : GoodIn wsX12_ask wsX12_isLine := goodIn_r _ [12, 13, 14, 15, 11, 16, 34, 35, 36, 37, 38, 39, 40, 41, 42, 43, 44, 45, 46, 47, 48, 49, 50, 51, 52, 53, 54, 55, 56, 57, 58, 59, 60, 61, 62, 63, 64, 65, 66, 67] rfl gw_X12_isLine
set_option maxRecDepth 20000 in
theorem gX12_ask_X12_isLine : GoodIn wsX12_ask (wsV RX12 132 RX12 yX12_isLine wsX12_isLine) := goodIn_app (goodIn_r _ [8, 9, 10, 11] rfl (gw_V _ _ _ _)) ggX12_ask_X12_isLine
set_option maxRecDepth 20000 in
theorem ggX12_ask_X12_in : GoodIn wsX12_ask wsX12_in := goodIn_r _ [16] rfl gw_X12_in
set_option maxRecDepth 20000 in
theorem gX12_ask_X12_in : GoodIn wsX12_ask (va_wsS RX12 91 yX12_in wsX12_in) := goodIn_app (goodIn_r _ [14, 15, 11] rfl (gw_S _ _ _)) ggX12_ask_X12_in
set_option maxRecDepth 20000 in
theorem ggX12_ask_X12_costsTrace : GoodIn wsX12_ask wsX12_costsTrace := goodIn_r _ [20, 4, 21, 22, 23, 34, 35, 36, 37, 38, 39, 40, 41, 42, 43, 44, 45, 46, 47, 48, 49, 50, 51, 52, 53, 54, 55, 56, 57, 58, 59, 60, 61, 62, 63, 64, 65, 66, 67] rfl gw_X12_costsTrace
set_option maxRecDepth 20000 in
theorem gX12_ask_X12_costsTrace : GoodIn wsX12_ask (wsV RX12 139 RX12 yX12_costsTrace wsX12_costsTrace) := goodIn_app (goodIn_r _ [17, 18, 19, 11] rfl (gw_V _ _ _ _)) ggX12_ask_X12_costsTrace
set_option maxRecDepth 20000 in
theorem ggX12_ask_X12_costs : GoodIn wsX12_ask wsX12_costs := goodIn_r _ [27, 4, 28, 34, 35, 36, 37, 38, 39, 40, 41, 42, 43, 44, 45, 46, 47, 48, 49, 50, 51, 52, 53, 54, 55, 56, 57, 58, 59, 60, 61, 62, 63, 64, 65, 66, 67] rfl gw_X12_costs
set_option maxRecDepth 20000 in
theorem gX12_ask_X12_costs : GoodIn wsX12_ask (wsV RX12 135 RX12 yX12_costs wsX12_costs) := goodIn_app (goodIn_r _ [24, 25, 26, 11] rfl (gw_V _ _ _ _)) ggX12_ask_X12_costs
set_option maxRecDepth 20000 in
theorem ggX12_ask_X12_lets : GoodIn wsX12_ask wsX12_lets := goodIn_r _ [32, 4, 33, 34, 35, 36, 37, 38, 39, 40, 41, 42, 43, 44, 45, 46, 47, 48, 49, 50, 51, 52, 53, 54, 55, 56, 57, 58, 59, 60, 61, 62, 63, 64, 65, 66, 67] rfl gw_X12_lets
set_option maxRecDepth 20000 in
theorem gX12_ask_X12_lets : GoodIn wsX12_ask (wsV RX12 155 RX12 yX12_lets wsX12_lets) := goodIn_app (goodIn_r _ [29, 30, 31, 11] rfl (gw_V _ _ _ _)) ggX12_ask_X12_lets
set_option maxRecDepth 20000 in
theorem ggX12_room_X12_lets : GoodIn wsX12_room wsX12_lets := goodIn_r _ [8, 2, 9, 10, 11, 12, 13, 14, 15, 16, 17, 18, 19, 20, 21, 22, 23, 24, 25, 26, 27, 28, 29, 30, 31, 32, 33, 34, 35, 36, 37, 38, 39, 40, 41, 42, 43] rfl gw_X12_lets
set_option maxRecDepth 20000 in
theorem gX12_room_X12_lets : GoodIn wsX12_room (wsV RX12 155 RX12 yX12_lets wsX12_lets) := goodIn_app (goodIn_r _ [4, 5, 6, 7] rfl (gw_V _ _ _ _)) ggX12_room_X12_lets
set_option maxRecDepth 20000 in
theorem ggX12_sizeOf_X12_room : GoodIn wsX12_sizeOf wsX12_room := goodIn_r _ [10, 11, 12, 5, 13, 14, 15, 9, 16, 17, 18, 19, 20, 21, 22, 23, 24, 25, 26, 27, 28, 29, 30, 31, 32, 33, 34, 35, 36, 37, 38, 39, 40, 41, 42, 43, 44, 45, 46, 47, 48, 49, 50, 51] rfl gw_X12_room
set_option maxRecDepth 20000 in
theorem gX12_sizeOf_X12_room : GoodIn wsX12_sizeOf (wsV RX12 160 RX12 yX12_room wsX12_room) := goodIn_app (goodIn_r _ [6, 7, 8, 9] rfl (gw_V _ _ _ _)) ggX12_sizeOf_X12_room
set_option maxRecDepth 20000 in
theorem ggX12_mostOf_X12_sizeOf : GoodIn wsX12_mostOf wsX12_sizeOf := goodIn_r _ [7, 8, 9, 10, 11, 1, 12, 13, 14, 6, 15, 16, 17, 18, 19, 20, 21, 22, 23, 24, 25, 26, 27, 28, 29, 30, 31, 32, 33, 34, 35, 36, 37, 38, 39, 40, 41, 42, 43, 44, 45, 46, 47, 48, 49, 50, 51, 52, 53, 54, 55, 56] rfl gw_X12_sizeOf
set_option maxRecDepth 20000 in
theorem gX12_mostOf_X12_sizeOf : GoodIn wsX12_mostOf (wsV RX12 163 RX12 yX12_sizeOf wsX12_sizeOf) := goodIn_app (goodIn_r _ [3, 4, 5, 6] rfl (gw_V _ _ _ _)) ggX12_mostOf_X12_sizeOf
set_option maxRecDepth 20000 in
theorem ggX12_most_X12_arePlaces : GoodIn wsX12_most wsX12_arePlaces := goodIn_r _ [6, 7, 8, 9, 5, 10, 11, 12, 13, 14, 42, 43, 44, 45, 46, 47, 48, 49, 50, 51, 52, 53, 54, 55, 56, 57, 58, 59, 60, 61, 62, 63, 64, 65, 66, 67, 68, 69, 70, 71, 72, 73, 74, 75] rfl gw_X12_arePlaces
set_option maxRecDepth 20000 in
theorem gX12_most_X12_arePlaces : GoodIn wsX12_most (wsV RX12 143 RX12 yX12_arePlaces wsX12_arePlaces) := goodIn_app (goodIn_r _ [2, 3, 4, 5] rfl (gw_V _ _ _ _)) ggX12_most_X12_arePlaces
set_option maxRecDepth 20000 in
theorem ggX12_most_X12_mostOf : GoodIn wsX12_most wsX12_mostOf := goodIn_r _ [18, 19, 11, 20, 21, 22, 5, 23, 24, 25, 26, 27, 28, 29, 30, 31, 32, 33, 34, 35, 36, 37, 38, 42, 43, 44, 45, 46, 47, 48, 49, 50, 51, 52, 53, 54, 55, 56, 57, 58, 59, 60, 61, 62, 63, 64, 65, 66, 67, 68, 69, 70, 71, 72, 73, 74, 75] rfl gw_X12_mostOf
set_option maxRecDepth 20000 in
theorem gX12_most_X12_mostOf : GoodIn wsX12_most (wsV RX12 166 RX12 yX12_mostOf wsX12_mostOf) := goodIn_app (goodIn_r _ [15, 16, 17, 5] rfl (gw_V _ _ _ _)) ggX12_most_X12_mostOf
set_option maxRecDepth 20000 in
theorem ggX12_most_X12_asTold : GoodIn wsX12_most wsX12_asTold := goodIn_r _ [41, 19] rfl gw_X12_asTold
set_option maxRecDepth 20000 in
theorem gX12_most_X12_asTold : GoodIn wsX12_most (va_wsS RX12 170 yX12_asTold wsX12_asTold) := goodIn_app (goodIn_r _ [39, 40, 5] rfl (gw_S _ _ _)) ggX12_most_X12_asTold
set_option maxRecDepth 20000 in
theorem ggX12_left_X12_room : GoodIn wsX12_left wsX12_room := goodIn_r _ [9, 10, 11, 12, 13, 14, 15, 8, 16, 17, 18, 19, 20, 21, 22, 23, 24, 25, 26, 27, 28, 29, 30, 31, 32, 33, 34, 35, 36, 37, 38, 39, 40, 41, 42, 43, 44, 45, 46, 47, 48, 49, 50, 51] rfl gw_X12_room
set_option maxRecDepth 20000 in
theorem gX12_left_X12_room : GoodIn wsX12_left (wsV RX12 160 RX12 yX12_room wsX12_room) := goodIn_app (goodIn_r _ [5, 6, 7, 8] rfl (gw_V _ _ _ _)) ggX12_left_X12_room
set_option maxRecDepth 20000 in
theorem ggX12_leftOf_X12_left : GoodIn wsX12_leftOf wsX12_left := goodIn_r _ [6, 7, 8, 9, 10, 11, 12, 13, 5, 14, 15, 16, 17, 18, 19, 20, 21, 22, 23, 24, 25, 26, 27, 28, 29, 30, 31, 32, 33, 34, 35, 36, 37, 38, 39, 40, 41, 42, 43, 44, 45, 46, 47, 48, 49, 50, 51, 52, 53, 54, 55, 56] rfl gw_X12_left
set_option maxRecDepth 20000 in
theorem gX12_leftOf_X12_left : GoodIn wsX12_leftOf (wsV RX12 173 RX12 yX12_left wsX12_left) := goodIn_app (goodIn_r _ [2, 3, 4, 5] rfl (gw_V _ _ _ _)) ggX12_leftOf_X12_left
set_option maxRecDepth 20000 in
theorem ggX12_hasWay_X12_isMet : GoodIn wsX12_hasWay wsX12_isMet := goodIn_r _ [8, 1, 34, 35, 36, 37, 38, 39, 40, 41, 42, 43, 44, 45, 46, 47, 48, 49, 50, 51, 52, 53, 54, 55, 56, 57, 58, 59, 60, 61, 62, 63, 64, 65, 66, 67] rfl gw_X12_isMet
set_option maxRecDepth 20000 in
theorem gX12_hasWay_X12_isMet : GoodIn wsX12_hasWay (wsV RX12 177 RX12 yX12_isMet wsX12_isMet) := goodIn_app (goodIn_r _ [4, 5, 6, 7] rfl (gw_V _ _ _ _)) ggX12_hasWay_X12_isMet
set_option maxRecDepth 20000 in
theorem ggX12_hasWay_X12_leftOf : GoodIn wsX12_hasWay wsX12_leftOf := goodIn_r _ [12, 13, 14, 15, 16, 7, 17, 18, 19, 20, 21, 22, 23, 24, 25, 26, 27, 28, 29, 30, 31, 32, 33, 34, 35, 36, 37, 38, 39, 40, 41, 42, 43, 44, 45, 46, 47, 48, 49, 50, 51, 52, 53, 54, 55, 56, 57, 58, 59, 60, 61, 62, 63, 64, 65, 66, 67] rfl gw_X12_leftOf
set_option maxRecDepth 20000 in
theorem gX12_hasWay_X12_leftOf : GoodIn wsX12_hasWay (wsV RX12 180 RX12 yX12_leftOf wsX12_leftOf) := goodIn_app (goodIn_r _ [9, 10, 11, 7] rfl (gw_V _ _ _ _)) ggX12_hasWay_X12_leftOf
set_option maxRecDepth 20000 in
theorem ggX12_flowOf_X12_hasWay : GoodIn wsX12_flowOf wsX12_hasWay := goodIn_r _ [12, 13, 14, 3, 15, 16, 17, 11, 18, 19, 20, 21, 22, 4, 23, 24, 25, 26, 5, 6, 7, 1, 27, 28, 29, 30, 31, 32, 33, 34, 35, 36, 37, 38, 39, 40, 41, 42, 43, 44, 45, 46, 47, 48, 49, 50, 51, 52, 53, 54, 55, 56, 57, 58, 59, 60, 61, 62, 63, 64, 65, 66, 67, 68, 69, 70, 71, 72] rfl gw_X12_hasWay
set_option maxRecDepth 20000 in
theorem gX12_flowOf_X12_hasWay : GoodIn wsX12_flowOf (wsV RX12 183 RX12 yX12_hasWay wsX12_hasWay) := goodIn_app (goodIn_r _ [8, 9, 10, 11] rfl (gw_V _ _ _ _)) ggX12_flowOf_X12_hasWay
set_option maxRecDepth 20000 in
theorem ggX12_flowOf_X12_leftOf : GoodIn wsX12_flowOf wsX12_leftOf := goodIn_r _ [22, 4, 23, 24, 25, 11, 26, 5, 6, 7, 1, 27, 28, 29, 30, 31, 32, 33, 34, 35, 36, 37, 38, 39, 40, 41, 42, 43, 44, 45, 46, 47, 48, 49, 50, 51, 52, 53, 54, 55, 56, 57, 58, 59, 60, 61, 62, 63, 64, 65, 66, 67, 68, 69, 70, 71, 72] rfl gw_X12_leftOf
set_option maxRecDepth 20000 in
theorem gX12_flowOf_X12_leftOf : GoodIn wsX12_flowOf (wsV RX12 180 RX12 yX12_leftOf wsX12_leftOf) := goodIn_app (goodIn_r _ [19, 20, 21, 11] rfl (gw_V _ _ _ _)) ggX12_flowOf_X12_leftOf
set_option maxRecDepth 20000 in
theorem ggX12_flowOf_X12_left : GoodIn wsX12_flowOf wsX12_left := goodIn_r _ [26, 5, 6, 7, 1, 27, 28, 29, 11, 30, 31, 32, 33, 34, 35, 36, 37, 38, 39, 40, 41, 42, 43, 44, 45, 46, 47, 48, 49, 50, 51, 52, 53, 54, 55, 56, 57, 58, 59, 60, 61, 62, 63, 64, 65, 66, 67, 68, 69, 70, 71, 72] rfl gw_X12_left
set_option maxRecDepth 20000 in
theorem gX12_flowOf_X12_left : GoodIn wsX12_flowOf (wsV RX12 173 RX12 yX12_left wsX12_left) := goodIn_app (goodIn_r _ [23, 24, 25, 11] rfl (gw_V _ _ _ _)) ggX12_flowOf_X12_left
set_option maxRecDepth 20000 in
theorem ggX12_flow_X12_arePlaces : GoodIn wsX12_flow wsX12_arePlaces := goodIn_r _ [10, 11, 12, 13, 9, 14, 15, 16, 17, 18, 68, 69, 70, 71, 72, 73, 74, 75, 76, 77, 78, 79, 80, 81, 82, 83, 84, 85, 86, 87, 88, 89, 90, 91, 92, 93, 94, 95, 96, 97, 98, 99, 100, 101] rfl gw_X12_arePlaces
set_option maxRecDepth 20000 in
theorem gX12_flow_X12_arePlaces : GoodIn wsX12_flow (wsV RX12 143 RX12 yX12_arePlaces wsX12_arePlaces) := goodIn_app (goodIn_r _ [6, 7, 8, 9] rfl (gw_V _ _ _ _)) ggX12_flow_X12_arePlaces
set_option maxRecDepth 20000 in
theorem ggX12_flow_X12_isLine : GoodIn wsX12_flow wsX12_isLine := goodIn_r _ [22, 23, 16, 17, 9, 18, 68, 69, 70, 71, 72, 73, 74, 75, 76, 77, 78, 79, 80, 81, 82, 83, 84, 85, 86, 87, 88, 89, 90, 91, 92, 93, 94, 95, 96, 97, 98, 99, 100, 101] rfl gw_X12_isLine
set_option maxRecDepth 20000 in
theorem gX12_flow_X12_isLine : GoodIn wsX12_flow (wsV RX12 132 RX12 yX12_isLine wsX12_isLine) := goodIn_app (goodIn_r _ [19, 20, 21, 9] rfl (gw_V _ _ _ _)) ggX12_flow_X12_isLine
set_option maxRecDepth 20000 in
theorem ggX12_flow_X12_mostOf : GoodIn wsX12_flow wsX12_mostOf := goodIn_r _ [27, 3, 15, 28, 29, 30, 9, 31, 23, 2, 32, 33, 34, 35, 36, 37, 38, 39, 40, 41, 42, 43, 44, 68, 69, 70, 71, 72, 73, 74, 75, 76, 77, 78, 79, 80, 81, 82, 83, 84, 85, 86, 87, 88, 89, 90, 91, 92, 93, 94, 95, 96, 97, 98, 99, 100, 101] rfl gw_X12_mostOf
set_option maxRecDepth 20000 in
theorem gX12_flow_X12_mostOf : GoodIn wsX12_flow (wsV RX12 166 RX12 yX12_mostOf wsX12_mostOf) := goodIn_app (goodIn_r _ [24, 25, 26, 9] rfl (gw_V _ _ _ _)) ggX12_flow_X12_mostOf
set_option maxRecDepth 20000 in
theorem ggX12_flow_X12_flowOf : GoodIn wsX12_flow wsX12_flowOf := goodIn_r _ [48, 5, 49, 50, 23, 2, 32, 33, 51, 52, 53, 9, 54, 55, 15, 56, 57, 58, 59, 60, 61, 62, 63, 64, 65, 66, 67, 34, 35, 36, 37, 38, 39, 3, 40, 41, 42, 43, 44, 68, 69, 70, 71, 72, 73, 74, 75, 76, 77, 78, 79, 80, 81, 82, 83, 84, 85, 86, 87, 88, 89, 90, 91, 92, 93, 94, 95, 96, 97, 98, 99, 100, 101] rfl gw_X12_flowOf
set_option maxRecDepth 20000 in
theorem gX12_flow_X12_flowOf : GoodIn wsX12_flow (wsV RX12 188 RX12 yX12_flowOf wsX12_flowOf) := goodIn_app (goodIn_r _ [45, 46, 47, 9] rfl (gw_V _ _ _ _)) ggX12_flow_X12_flowOf
set_option maxRecDepth 20000 in
theorem ggX12_cutsOf_X12_sizeOf : GoodIn wsX12_cutsOf wsX12_sizeOf := goodIn_r _ [10, 11, 12, 13, 14, 15, 16, 17, 18, 9, 19, 20, 21, 22, 23, 24, 25, 26, 30, 31, 32, 33, 34, 35, 36, 37, 38, 39, 40, 41, 42, 43, 44, 45, 46, 47, 48, 49, 50, 51, 52, 53, 54, 55, 56, 57, 58, 59, 60, 61, 62, 63] rfl gw_X12_sizeOf
set_option maxRecDepth 20000 in
theorem gX12_cutsOf_X12_sizeOf : GoodIn wsX12_cutsOf (wsV RX12 163 RX12 yX12_sizeOf wsX12_sizeOf) := goodIn_app (goodIn_r _ [6, 7, 8, 9] rfl (gw_V _ _ _ _)) ggX12_cutsOf_X12_sizeOf
set_option maxRecDepth 20000 in
theorem ggX12_cutsOf_X12_bitsOf : GoodIn wsX12_cutsOf wsX12_bitsOf := goodIn_r _ [29] rfl gw_X12_bitsOf
set_option maxRecDepth 20000 in
theorem gX12_cutsOf_X12_bitsOf : GoodIn wsX12_cutsOf (va_wsS RX12 204 yX12_bitsOf wsX12_bitsOf) := goodIn_app (goodIn_r _ [27, 28, 9] rfl (gw_S _ _ _)) ggX12_cutsOf_X12_bitsOf
set_option maxRecDepth 20000 in
theorem ggX12_cut_X12_arePlaces : GoodIn wsX12_cut wsX12_arePlaces := goodIn_r _ [9, 10, 11, 12, 8, 13, 14, 15, 16, 17, 50, 51, 52, 53, 54, 55, 56, 57, 58, 59, 60, 61, 62, 63, 64, 65, 66, 67, 68, 69, 70, 71, 72, 73, 74, 75, 76, 77, 78, 79, 80, 81, 82, 83] rfl gw_X12_arePlaces
set_option maxRecDepth 20000 in
theorem gX12_cut_X12_arePlaces : GoodIn wsX12_cut (wsV RX12 143 RX12 yX12_arePlaces wsX12_arePlaces) := goodIn_app (goodIn_r _ [5, 6, 7, 8] rfl (gw_V _ _ _ _)) ggX12_cut_X12_arePlaces
set_option maxRecDepth 20000 in
theorem ggX12_cut_X12_in : GoodIn wsX12_cut wsX12_in := goodIn_r _ [17] rfl gw_X12_in
set_option maxRecDepth 20000 in
theorem gX12_cut_X12_in : GoodIn wsX12_cut (va_wsS RX12 91 yX12_in wsX12_in) := goodIn_app (goodIn_r _ [15, 16, 8] rfl (gw_S _ _ _)) ggX12_cut_X12_in
set_option maxRecDepth 20000 in
theorem ggX12_cut_X12_mostOf : GoodIn wsX12_cut wsX12_mostOf := goodIn_r _ [21, 2, 14, 22, 23, 24, 8, 25, 26, 27, 28, 29, 30, 31, 32, 33, 34, 35, 36, 37, 38, 39, 40, 50, 51, 52, 53, 54, 55, 56, 57, 58, 59, 60, 61, 62, 63, 64, 65, 66, 67, 68, 69, 70, 71, 72, 73, 74, 75, 76, 77, 78, 79, 80, 81, 82, 83] rfl gw_X12_mostOf
set_option maxRecDepth 20000 in
theorem gX12_cut_X12_mostOf : GoodIn wsX12_cut (wsV RX12 166 RX12 yX12_mostOf wsX12_mostOf) := goodIn_app (goodIn_r _ [18, 19, 20, 8] rfl (gw_V _ _ _ _)) ggX12_cut_X12_mostOf
set_option maxRecDepth 20000 in
theorem ggX12_cut_X12_cutsOf : GoodIn wsX12_cut wsX12_cutsOf := goodIn_r _ [44, 45, 3, 4, 46, 14, 22, 23, 24, 8, 25, 26, 27, 28, 29, 2, 30, 31, 32, 33, 34, 35, 36, 37, 38, 39, 40, 47, 48, 49, 50, 51, 52, 53, 54, 55, 56, 57, 58, 59, 60, 61, 62, 63, 64, 65, 66, 67, 68, 69, 70, 71, 72, 73, 74, 75, 76, 77, 78, 79, 80, 81, 82, 83] rfl gw_X12_cutsOf
set_option maxRecDepth 20000 in
theorem gX12_cut_X12_cutsOf : GoodIn wsX12_cut (wsV RX12 207 RX12 yX12_cutsOf wsX12_cutsOf) := goodIn_app (goodIn_r _ [41, 42, 43, 8] rfl (gw_V _ _ _ _)) ggX12_cut_X12_cutsOf
set_option maxRecDepth 20000 in
theorem ggX12_count_X12_arePlaces : GoodIn wsX12_count wsX12_arePlaces := goodIn_r _ [8, 9, 10, 11, 7, 12, 13, 14, 15, 16, 50, 51, 52, 53, 54, 55, 56, 57, 58, 59, 60, 61, 62, 63, 64, 65, 66, 67, 68, 69, 70, 71, 72, 73, 74, 75, 76, 77, 78, 79, 80, 81, 82, 83] rfl gw_X12_arePlaces
set_option maxRecDepth 20000 in
theorem gX12_count_X12_arePlaces : GoodIn wsX12_count (wsV RX12 143 RX12 yX12_arePlaces wsX12_arePlaces) := goodIn_app (goodIn_r _ [4, 5, 6, 7] rfl (gw_V _ _ _ _)) ggX12_count_X12_arePlaces
set_option maxRecDepth 20000 in
theorem ggX12_count_X12_mostOf : GoodIn wsX12_count wsX12_mostOf := goodIn_r _ [20, 2, 13, 21, 22, 23, 7, 24, 25, 26, 27, 28, 29, 30, 31, 32, 33, 34, 35, 36, 37, 38, 39, 50, 51, 52, 53, 54, 55, 56, 57, 58, 59, 60, 61, 62, 63, 64, 65, 66, 67, 68, 69, 70, 71, 72, 73, 74, 75, 76, 77, 78, 79, 80, 81, 82, 83] rfl gw_X12_mostOf
set_option maxRecDepth 20000 in
theorem gX12_count_X12_mostOf : GoodIn wsX12_count (wsV RX12 166 RX12 yX12_mostOf wsX12_mostOf) := goodIn_app (goodIn_r _ [17, 18, 19, 7] rfl (gw_V _ _ _ _)) ggX12_count_X12_mostOf
set_option maxRecDepth 20000 in
theorem ggX12_count_X12_cutsOf : GoodIn wsX12_count wsX12_cutsOf := goodIn_r _ [43, 3, 44, 45, 46, 13, 21, 22, 23, 7, 24, 25, 26, 27, 28, 2, 29, 30, 31, 32, 33, 34, 35, 36, 37, 38, 39, 47, 48, 49, 50, 51, 52, 53, 54, 55, 56, 57, 58, 59, 60, 61, 62, 63, 64, 65, 66, 67, 68, 69, 70, 71, 72, 73, 74, 75, 76, 77, 78, 79, 80, 81, 82, 83] rfl gw_X12_cutsOf
set_option maxRecDepth 20000 in
theorem gX12_count_X12_cutsOf : GoodIn wsX12_count (wsV RX12 207 RX12 yX12_cutsOf wsX12_cutsOf) := goodIn_app (goodIn_r _ [40, 41, 42, 7] rfl (gw_V _ _ _ _)) ggX12_count_X12_cutsOf
set_option maxRecDepth 20000 in
theorem ggX12_next_X12_arePlaces : GoodIn wsX12_next wsX12_arePlaces := goodIn_r _ [8, 9, 10, 11, 7, 12, 13, 14, 15, 16, 50, 51, 52, 53, 54, 55, 56, 57, 58, 59, 60, 61, 62, 63, 64, 65, 66, 67, 68, 69, 70, 71, 72, 73, 74, 75, 76, 77, 78, 79, 80, 81, 82, 83] rfl gw_X12_arePlaces
set_option maxRecDepth 20000 in
theorem gX12_next_X12_arePlaces : GoodIn wsX12_next (wsV RX12 143 RX12 yX12_arePlaces wsX12_arePlaces) := goodIn_app (goodIn_r _ [4, 5, 6, 7] rfl (gw_V _ _ _ _)) ggX12_next_X12_arePlaces
set_option maxRecDepth 20000 in
theorem ggX12_next_X12_mostOf : GoodIn wsX12_next wsX12_mostOf := goodIn_r _ [20, 2, 13, 21, 22, 23, 7, 24, 25, 26, 27, 28, 29, 30, 31, 32, 33, 34, 35, 36, 37, 38, 39, 50, 51, 52, 53, 54, 55, 56, 57, 58, 59, 60, 61, 62, 63, 64, 65, 66, 67, 68, 69, 70, 71, 72, 73, 74, 75, 76, 77, 78, 79, 80, 81, 82, 83] rfl gw_X12_mostOf
set_option maxRecDepth 20000 in
theorem gX12_next_X12_mostOf : GoodIn wsX12_next (wsV RX12 166 RX12 yX12_mostOf wsX12_mostOf) := goodIn_app (goodIn_r _ [17, 18, 19, 7] rfl (gw_V _ _ _ _)) ggX12_next_X12_mostOf
set_option maxRecDepth 20000 in
theorem ggX12_next_X12_cutsOf : GoodIn wsX12_next wsX12_cutsOf := goodIn_r _ [43, 44, 45, 46, 3, 13, 21, 22, 23, 7, 24, 25, 26, 27, 28, 2, 29, 30, 31, 32, 33, 34, 35, 36, 37, 38, 39, 47, 48, 49, 50, 51, 52, 53, 54, 55, 56, 57, 58, 59, 60, 61, 62, 63, 64, 65, 66, 67, 68, 69, 70, 71, 72, 73, 74, 75, 76, 77, 78, 79, 80, 81, 82, 83] rfl gw_X12_cutsOf
set_option maxRecDepth 20000 in
theorem gX12_next_X12_cutsOf : GoodIn wsX12_next (wsV RX12 207 RX12 yX12_cutsOf wsX12_cutsOf) := goodIn_app (goodIn_r _ [40, 41, 42, 7] rfl (gw_V _ _ _ _)) ggX12_next_X12_cutsOf
set_option maxRecDepth 20000 in
theorem ggX12_size_X12_arePlaces : GoodIn wsX12_size wsX12_arePlaces := goodIn_r _ [7, 8, 9, 10, 6, 11, 2, 12, 13, 14, 38, 39, 40, 41, 42, 43, 44, 45, 46, 47, 48, 49, 50, 51, 52, 53, 54, 55, 56, 57, 58, 59, 60, 61, 62, 63, 64, 65, 66, 67, 68, 69, 70, 71] rfl gw_X12_arePlaces
set_option maxRecDepth 20000 in
theorem gX12_size_X12_arePlaces : GoodIn wsX12_size (wsV RX12 143 RX12 yX12_arePlaces wsX12_arePlaces) := goodIn_app (goodIn_r _ [3, 4, 5, 6] rfl (gw_V _ _ _ _)) ggX12_size_X12_arePlaces
set_option maxRecDepth 20000 in
theorem ggX12_size_X12_sizeOf : GoodIn wsX12_size wsX12_sizeOf := goodIn_r _ [18, 19, 20, 21, 22, 23, 24, 25, 26, 6, 27, 28, 29, 30, 31, 32, 33, 34, 38, 39, 40, 41, 42, 43, 44, 45, 46, 47, 48, 49, 50, 51, 52, 53, 54, 55, 56, 57, 58, 59, 60, 61, 62, 63, 64, 65, 66, 67, 68, 69, 70, 71] rfl gw_X12_sizeOf
set_option maxRecDepth 20000 in
theorem gX12_size_X12_sizeOf : GoodIn wsX12_size (wsV RX12 163 RX12 yX12_sizeOf wsX12_sizeOf) := goodIn_app (goodIn_r _ [15, 16, 17, 6] rfl (gw_V _ _ _ _)) ggX12_size_X12_sizeOf
set_option maxRecDepth 20000 in
theorem ggX12_size_X12_asTold : GoodIn wsX12_size wsX12_asTold := goodIn_r _ [37, 23] rfl gw_X12_asTold
set_option maxRecDepth 20000 in
theorem gX12_size_X12_asTold : GoodIn wsX12_size (va_wsS RX12 170 yX12_asTold wsX12_asTold) := goodIn_app (goodIn_r _ [35, 36, 6] rfl (gw_S _ _ _)) ggX12_size_X12_asTold
set_option maxRecDepth 20000 in
theorem ggX12_raise_X12_arePlaces : GoodIn wsX12_raise wsX12_arePlaces := goodIn_r _ [8, 9, 10, 11, 7, 12, 13, 14, 15, 16, 46, 47, 48, 49, 50, 51, 52, 53, 54, 55, 56, 57, 58, 59, 60, 61, 62, 63, 64, 65, 66, 67, 68, 69, 70, 71, 72, 73, 74, 75, 76, 77, 78, 79] rfl gw_X12_arePlaces
set_option maxRecDepth 20000 in
theorem gX12_raise_X12_arePlaces : GoodIn wsX12_raise (wsV RX12 143 RX12 yX12_arePlaces wsX12_arePlaces) := goodIn_app (goodIn_r _ [4, 5, 6, 7] rfl (gw_V _ _ _ _)) ggX12_raise_X12_arePlaces
set_option maxRecDepth 20000 in
theorem ggX12_raise_X12_isLine : GoodIn wsX12_raise wsX12_isLine := goodIn_r _ [20, 21, 14, 15, 7, 16, 46, 47, 48, 49, 50, 51, 52, 53, 54, 55, 56, 57, 58, 59, 60, 61, 62, 63, 64, 65, 66, 67, 68, 69, 70, 71, 72, 73, 74, 75, 76, 77, 78, 79] rfl gw_X12_isLine
set_option maxRecDepth 20000 in
theorem gX12_raise_X12_isLine : GoodIn wsX12_raise (wsV RX12 132 RX12 yX12_isLine wsX12_isLine) := goodIn_app (goodIn_r _ [17, 18, 19, 7] rfl (gw_V _ _ _ _)) ggX12_raise_X12_isLine
set_option maxRecDepth 20000 in
theorem ggX12_raise_X12_mostOf : GoodIn wsX12_raise wsX12_mostOf := goodIn_r _ [25, 26, 13, 27, 28, 29, 7, 30, 21, 2, 31, 32, 33, 34, 35, 36, 3, 37, 38, 39, 40, 41, 42, 46, 47, 48, 49, 50, 51, 52, 53, 54, 55, 56, 57, 58, 59, 60, 61, 62, 63, 64, 65, 66, 67, 68, 69, 70, 71, 72, 73, 74, 75, 76, 77, 78, 79] rfl gw_X12_mostOf
set_option maxRecDepth 20000 in
theorem gX12_raise_X12_mostOf : GoodIn wsX12_raise (wsV RX12 166 RX12 yX12_mostOf wsX12_mostOf) := goodIn_app (goodIn_r _ [22, 23, 24, 7] rfl (gw_V _ _ _ _)) ggX12_raise_X12_mostOf
set_option maxRecDepth 20000 in
theorem ggX12_raise_X12_asTold : GoodIn wsX12_raise wsX12_asTold := goodIn_r _ [45, 26] rfl gw_X12_asTold
set_option maxRecDepth 20000 in
theorem gX12_raise_X12_asTold : GoodIn wsX12_raise (va_wsS RX12 170 yX12_asTold wsX12_asTold) := goodIn_app (goodIn_r _ [43, 44, 7] rfl (gw_S _ _ _)) ggX12_raise_X12_asTold
set_option maxRecDepth 20000 in
theorem ggX12_step_X12_room : GoodIn wsX12_step wsX12_room := goodIn_r _ [7, 8, 9, 10, 11, 12, 13, 6, 14, 15, 21, 22, 23, 24, 25, 26, 27, 28, 29, 30, 31, 32, 33, 34, 35, 36, 37, 38, 39, 40, 41, 42, 43, 44, 45, 46, 47, 48, 49, 50, 51, 52, 53, 54] rfl gw_X12_room
set_option maxRecDepth 20000 in
theorem gX12_step_X12_room : GoodIn wsX12_step (wsV RX12 160 RX12 yX12_room wsX12_room) := goodIn_app (goodIn_r _ [3, 4, 5, 6] rfl (gw_V _ _ _ _)) ggX12_step_X12_room
set_option maxRecDepth 20000 in
theorem ggX12_step_X12_costs : GoodIn wsX12_step wsX12_costs := goodIn_r _ [19, 9, 20, 21, 22, 23, 24, 25, 26, 27, 28, 29, 30, 31, 32, 33, 34, 35, 36, 37, 38, 39, 40, 41, 42, 43, 44, 45, 46, 47, 48, 49, 50, 51, 52, 53, 54] rfl gw_X12_costs
set_option maxRecDepth 20000 in
theorem gX12_step_X12_costs : GoodIn wsX12_step (wsV RX12 135 RX12 yX12_costs wsX12_costs) := goodIn_app (goodIn_r _ [16, 17, 18, 6] rfl (gw_V _ _ _ _)) ggX12_step_X12_costs
set_option maxRecDepth 20000 in
theorem ggX12_amount_X12_room : GoodIn wsX12_amount wsX12_room := goodIn_r _ [7, 8, 9, 2, 10, 11, 12, 6, 13, 14, 15, 16, 17, 18, 19, 20, 21, 22, 23, 24, 25, 26, 27, 28, 29, 30, 31, 32, 33, 34, 35, 36, 37, 38, 39, 40, 41, 42, 43, 44, 45, 46, 47, 48] rfl gw_X12_room
set_option maxRecDepth 20000 in
theorem gX12_amount_X12_room : GoodIn wsX12_amount (wsV RX12 160 RX12 yX12_room wsX12_room) := goodIn_app (goodIn_r _ [3, 4, 5, 6] rfl (gw_V _ _ _ _)) ggX12_amount_X12_room
set_option maxRecDepth 20000 in
theorem ggX12_cheapWay_X12_step : GoodIn wsX12_cheapWay wsX12_step := goodIn_r _ [15, 16, 8, 17, 18, 19, 14, 20, 21, 22, 23, 24, 25, 26, 27, 28, 29, 30, 31, 32, 33, 34, 35, 36, 37, 38, 39, 40, 41, 42, 43, 44, 45, 46, 47, 48, 49, 50, 51, 52, 53, 54, 55, 56, 57, 58, 59, 60, 61, 62, 63, 64, 65, 66, 67] rfl gw_X12_step
set_option maxRecDepth 20000 in
theorem gX12_cheapWay_X12_step : GoodIn wsX12_cheapWay (wsV RX12 213 RX12 yX12_step wsX12_step) := goodIn_app (goodIn_r _ [11, 12, 13, 14] rfl (gw_V _ _ _ _)) ggX12_cheapWay_X12_step
set_option maxRecDepth 20000 in
theorem ggX12_cheapest_X12_arePlaces : GoodIn wsX12_cheapest wsX12_arePlaces := goodIn_r _ [12, 13, 14, 15, 11, 16, 17, 18, 19, 20, 63, 64, 65, 66, 67, 68, 69, 70, 71, 72, 73, 74, 75, 76, 77, 78, 79, 80, 81, 82, 83, 84, 85, 86, 87, 88, 89, 90, 91, 92, 93, 94, 95, 96] rfl gw_X12_arePlaces
set_option maxRecDepth 20000 in
theorem gX12_cheapest_X12_arePlaces : GoodIn wsX12_cheapest (wsV RX12 143 RX12 yX12_arePlaces wsX12_arePlaces) := goodIn_app (goodIn_r _ [8, 9, 10, 11] rfl (gw_V _ _ _ _)) ggX12_cheapest_X12_arePlaces
set_option maxRecDepth 20000 in
theorem ggX12_cheapest_X12_in : GoodIn wsX12_cheapest wsX12_in := goodIn_r _ [20] rfl gw_X12_in
set_option maxRecDepth 20000 in
theorem gX12_cheapest_X12_in : GoodIn wsX12_cheapest (va_wsS RX12 91 yX12_in wsX12_in) := goodIn_app (goodIn_r _ [18, 19, 11] rfl (gw_S _ _ _)) ggX12_cheapest_X12_in
set_option maxRecDepth 20000 in
theorem ggX12_cheapest_X12_mostOf : GoodIn wsX12_cheapest wsX12_mostOf := goodIn_r _ [24, 25, 17, 26, 27, 28, 11, 29, 30, 31, 5, 32, 33, 34, 35, 36, 37, 38, 39, 40, 41, 42, 43, 63, 64, 65, 66, 67, 68, 69, 70, 71, 72, 73, 74, 75, 76, 77, 78, 79, 80, 81, 82, 83, 84, 85, 86, 87, 88, 89, 90, 91, 92, 93, 94, 95, 96] rfl gw_X12_mostOf
set_option maxRecDepth 20000 in
theorem gX12_cheapest_X12_mostOf : GoodIn wsX12_cheapest (wsV RX12 166 RX12 yX12_mostOf wsX12_mostOf) := goodIn_app (goodIn_r _ [21, 22, 23, 11] rfl (gw_V _ _ _ _)) ggX12_cheapest_X12_mostOf
set_option maxRecDepth 20000 in
theorem ggX12_cheapest_X12_cheapWay : GoodIn wsX12_cheapest wsX12_cheapWay := goodIn_r _ [47, 17, 7, 48, 30, 31, 5, 32, 49, 4, 6, 50, 51, 52, 11, 53, 3, 33, 34, 35, 36, 37, 38, 25, 39, 40, 41, 42, 43, 54, 55, 56, 57, 58, 63, 64, 65, 66, 67, 68, 69, 70, 71, 72, 73, 74, 75, 76, 77, 78, 79, 80, 81, 82, 83, 84, 85, 86, 87, 88, 89, 90, 91, 92, 93, 94, 95, 96] rfl gw_X12_cheapWay
set_option maxRecDepth 20000 in
theorem gX12_cheapest_X12_cheapWay : GoodIn wsX12_cheapest (wsV RX12 219 RX12 yX12_cheapWay wsX12_cheapWay) := goodIn_app (goodIn_r _ [44, 45, 46, 11] rfl (gw_V _ _ _ _)) ggX12_cheapest_X12_cheapWay
set_option maxRecDepth 20000 in
theorem ggX12_cheapest_X12_amount : GoodIn wsX12_cheapest wsX12_amount := goodIn_r _ [62, 3, 25, 33, 34, 35, 11, 36, 37, 38, 39, 40, 41, 42, 43, 63, 64, 65, 66, 67, 68, 69, 70, 71, 72, 73, 74, 75, 76, 77, 78, 79, 80, 81, 82, 83, 84, 85, 86, 87, 88, 89, 90, 91, 92, 93, 94, 95, 96] rfl gw_X12_amount
set_option maxRecDepth 20000 in
theorem gX12_cheapest_X12_amount : GoodIn wsX12_cheapest (wsV RX12 222 RX12 yX12_amount wsX12_amount) := goodIn_app (goodIn_r _ [59, 60, 61, 11] rfl (gw_V _ _ _ _)) ggX12_cheapest_X12_amount
set_option maxRecDepth 20000 in
theorem ggX12_plants_X12_mostOf : GoodIn wsX12_plants wsX12_mostOf := goodIn_r _ [9, 10, 3, 11, 12, 13, 8, 14, 15, 16, 17, 18, 19, 20, 21, 22, 23, 24, 25, 26, 27, 28, 29, 40, 41, 42, 43, 44, 45, 46, 47, 48, 49, 50, 51, 52, 53, 54, 55, 56, 57, 58, 59, 60, 61, 62, 63, 64, 65, 66, 67, 68, 69, 70, 71, 72, 73] rfl gw_X12_mostOf
set_option maxRecDepth 20000 in
theorem gX12_plants_X12_mostOf : GoodIn wsX12_plants (wsV RX12 166 RX12 yX12_mostOf wsX12_mostOf) := goodIn_app (goodIn_r _ [5, 6, 7, 8] rfl (gw_V _ _ _ _)) ggX12_plants_X12_mostOf
set_option maxRecDepth 20000 in
theorem ggX12_plants_X12_cutsOf : GoodIn wsX12_plants wsX12_cutsOf := goodIn_r _ [33, 34, 4, 35, 36, 3, 11, 12, 13, 8, 14, 15, 16, 17, 18, 10, 19, 20, 21, 22, 23, 24, 25, 26, 27, 28, 29, 37, 38, 39, 40, 41, 42, 43, 44, 45, 46, 47, 48, 49, 50, 51, 52, 53, 54, 55, 56, 57, 58, 59, 60, 61, 62, 63, 64, 65, 66, 67, 68, 69, 70, 71, 72, 73] rfl gw_X12_cutsOf
set_option maxRecDepth 20000 in
theorem gX12_plants_X12_cutsOf : GoodIn wsX12_plants (wsV RX12 207 RX12 yX12_cutsOf wsX12_cutsOf) := goodIn_app (goodIn_r _ [30, 31, 32, 8] rfl (gw_V _ _ _ _)) ggX12_plants_X12_cutsOf
set_option maxRecDepth 20000 in
theorem ggX12_tree_X12_in : GoodIn wsX12_tree wsX12_in := goodIn_r _ [7] rfl gw_X12_in
set_option maxRecDepth 20000 in
theorem gX12_tree_X12_in : GoodIn wsX12_tree (va_wsS RX12 91 yX12_in wsX12_in) := goodIn_app (goodIn_r _ [4, 5, 6] rfl (gw_S _ _ _)) ggX12_tree_X12_in
set_option maxRecDepth 20000 in
theorem ggX12_tree_X12_isWhole : GoodIn wsX12_tree wsX12_isWhole := goodIn_r _ [11, 12, 13, 14, 15, 56, 57, 58, 59, 60, 61, 62, 63, 64, 65, 66, 67, 68, 69, 70, 71, 72, 73, 74, 75, 76, 77, 78, 79, 80, 81, 82, 83, 84, 85, 86, 87, 88, 89] rfl gw_X12_isWhole
set_option maxRecDepth 20000 in
theorem gX12_tree_X12_isWhole : GoodIn wsX12_tree (wsV RX12 225 RX12 yX12_isWhole wsX12_isWhole) := goodIn_app (goodIn_r _ [8, 9, 10, 6] rfl (gw_V _ _ _ _)) ggX12_tree_X12_isWhole
set_option maxRecDepth 20000 in
theorem ggX12_tree_X12_isPlace : GoodIn wsX12_tree wsX12_isPlace := goodIn_r _ [19, 12, 4, 5, 6, 7, 56, 57, 58, 59, 60, 61, 62, 63, 64, 65, 66, 67, 68, 69, 70, 71, 72, 73, 74, 75, 76, 77, 78, 79, 80, 81, 82, 83, 84, 85, 86, 87, 88, 89] rfl gw_X12_isPlace
set_option maxRecDepth 20000 in
theorem gX12_tree_X12_isPlace : GoodIn wsX12_tree (wsV RX12 98 RX12 yX12_isPlace wsX12_isPlace) := goodIn_app (goodIn_r _ [16, 17, 18, 6] rfl (gw_V _ _ _ _)) ggX12_tree_X12_isPlace
set_option maxRecDepth 20000 in
theorem ggX12_tree_X12_plants : GoodIn wsX12_tree wsX12_plants := goodIn_r _ [23, 2, 3, 12, 24, 25, 26, 27, 6, 28, 29, 30, 31, 32, 33, 13, 14, 34, 35, 36, 37, 38, 39, 40, 15, 41, 42, 43, 44, 45, 46, 47, 48, 49, 50, 51, 52, 53, 54, 55, 56, 57, 58, 59, 60, 61, 62, 63, 64, 65, 66, 67, 68, 69, 70, 71, 72, 73, 74, 75, 76, 77, 78, 79, 80, 81, 82, 83, 84, 85, 86, 87, 88, 89] rfl gw_X12_plants
set_option maxRecDepth 20000 in
theorem gX12_tree_X12_plants : GoodIn wsX12_tree (wsV RX12 229 RX12 yX12_plants wsX12_plants) := goodIn_app (goodIn_r _ [20, 21, 22, 6] rfl (gw_V _ _ _ _)) ggX12_tree_X12_plants
set_option maxRecDepth 20000 in
theorem ggX12_between_X12_isWhole : GoodIn wsX12_between wsX12_isWhole := goodIn_r _ [6, 7, 8, 9, 10, 43, 44, 45, 46, 47, 48, 49, 50, 51, 52, 53, 54, 55, 56, 57, 58, 59, 60, 61, 62, 63, 64, 65, 66, 67, 68, 69, 70, 71, 72, 73, 74, 75, 76] rfl gw_X12_isWhole
set_option maxRecDepth 20000 in
theorem gX12_between_X12_isWhole : GoodIn wsX12_between (wsV RX12 225 RX12 yX12_isWhole wsX12_isWhole) := goodIn_app (goodIn_r _ [2, 3, 4, 5] rfl (gw_V _ _ _ _)) ggX12_between_X12_isWhole
set_option maxRecDepth 20000 in
theorem ggX12_between_X12_arePlaces : GoodIn wsX12_between wsX12_arePlaces := goodIn_r _ [14, 15, 16, 17, 5, 18, 7, 19, 20, 21, 43, 44, 45, 46, 47, 48, 49, 50, 51, 52, 53, 54, 55, 56, 57, 58, 59, 60, 61, 62, 63, 64, 65, 66, 67, 68, 69, 70, 71, 72, 73, 74, 75, 76] rfl gw_X12_arePlaces
set_option maxRecDepth 20000 in
theorem gX12_between_X12_arePlaces : GoodIn wsX12_between (wsV RX12 143 RX12 yX12_arePlaces wsX12_arePlaces) := goodIn_app (goodIn_r _ [11, 12, 13, 5] rfl (gw_V _ _ _ _)) ggX12_between_X12_arePlaces
set_option maxRecDepth 20000 in
theorem ggX12_between_X12_mostOf : GoodIn wsX12_between wsX12_mostOf := goodIn_r _ [25, 26, 7, 27, 28, 29, 5, 30, 8, 9, 31, 32, 33, 34, 35, 36, 37, 10, 38, 39, 40, 41, 42, 43, 44, 45, 46, 47, 48, 49, 50, 51, 52, 53, 54, 55, 56, 57, 58, 59, 60, 61, 62, 63, 64, 65, 66, 67, 68, 69, 70, 71, 72, 73, 74, 75, 76] rfl gw_X12_mostOf
set_option maxRecDepth 20000 in
theorem gX12_between_X12_mostOf : GoodIn wsX12_between (wsV RX12 166 RX12 yX12_mostOf wsX12_mostOf) := goodIn_app (goodIn_r _ [22, 23, 24, 5] rfl (gw_V _ _ _ _)) ggX12_between_X12_mostOf
set_option maxRecDepth 20000 in
theorem ggX12_leastOf_X12_mostOf : GoodIn wsX12_leastOf wsX12_mostOf := goodIn_r _ [7, 1, 2, 8, 9, 10, 6, 11, 12, 13, 14, 15, 16, 17, 18, 19, 20, 21, 22, 23, 24, 25, 26, 27, 28, 29, 30, 31, 32, 33, 34, 35, 36, 37, 38, 39, 40, 41, 42, 43, 44, 45, 46, 47, 48, 49, 50, 51, 52, 53, 54, 55, 56, 57, 58, 59, 60] rfl gw_X12_mostOf
set_option maxRecDepth 20000 in
theorem gX12_leastOf_X12_mostOf : GoodIn wsX12_leastOf (wsV RX12 166 RX12 yX12_mostOf wsX12_mostOf) := goodIn_app (goodIn_r _ [3, 4, 5, 6] rfl (gw_V _ _ _ _)) ggX12_leastOf_X12_mostOf
set_option maxRecDepth 20000 in
theorem ggX12_least_X12_isWhole : GoodIn wsX12_least wsX12_isWhole := goodIn_r _ [6, 7, 8, 9, 10, 36, 37, 38, 39, 40, 41, 42, 43, 44, 45, 46, 47, 48, 49, 50, 51, 52, 53, 54, 55, 56, 57, 58, 59, 60, 61, 62, 63, 64, 65, 66, 67, 68, 69] rfl gw_X12_isWhole
set_option maxRecDepth 20000 in
theorem gX12_least_X12_isWhole : GoodIn wsX12_least (wsV RX12 225 RX12 yX12_isWhole wsX12_isWhole) := goodIn_app (goodIn_r _ [2, 3, 4, 5] rfl (gw_V _ _ _ _)) ggX12_least_X12_isWhole
set_option maxRecDepth 20000 in
theorem ggX12_least_X12_leastOf : GoodIn wsX12_least wsX12_leastOf := goodIn_r _ [14, 15, 7, 16, 17, 18, 5, 19, 20, 21, 22, 23, 8, 9, 24, 25, 26, 27, 28, 29, 30, 10, 31, 32, 33, 34, 35, 36, 37, 38, 39, 40, 41, 42, 43, 44, 45, 46, 47, 48, 49, 50, 51, 52, 53, 54, 55, 56, 57, 58, 59, 60, 61, 62, 63, 64, 65, 66, 67, 68, 69] rfl gw_X12_leastOf
set_option maxRecDepth 20000 in
theorem gX12_least_X12_leastOf : GoodIn wsX12_least (wsV RX12 232 RX12 yX12_leastOf wsX12_leastOf) := goodIn_app (goodIn_r _ [11, 12, 13, 5] rfl (gw_V _ _ _ _)) ggX12_least_X12_leastOf
set_option maxRecDepth 20000 in
theorem ggX12_wholeCuts_X12_leastOf : GoodIn wsX12_wholeCuts wsX12_leastOf := goodIn_r _ [8, 9, 3, 10, 11, 12, 7, 13, 14, 15, 16, 17, 18, 19, 20, 21, 22, 23, 24, 25, 26, 27, 28, 29, 30, 31, 32, 33, 34, 35, 36, 37, 38, 39, 40, 41, 42, 43, 44, 45, 46, 47, 48, 49, 50, 51, 52, 53, 54, 55, 56, 57, 58, 59, 60, 61, 62, 63, 64, 65, 66] rfl gw_X12_leastOf
set_option maxRecDepth 20000 in
theorem gX12_wholeCuts_X12_leastOf : GoodIn wsX12_wholeCuts (wsV RX12 232 RX12 yX12_leastOf wsX12_leastOf) := goodIn_app (goodIn_r _ [4, 5, 6, 7] rfl (gw_V _ _ _ _)) ggX12_wholeCuts_X12_leastOf
set_option maxRecDepth 20000 in
theorem ggX12_wholeCuts_X12_sizeOf : GoodIn wsX12_wholeCuts wsX12_sizeOf := goodIn_r _ [17, 18, 19, 20, 21, 9, 22, 23, 24, 7, 25, 26, 27, 28, 29, 30, 31, 32, 33, 34, 35, 36, 37, 38, 39, 40, 41, 42, 43, 44, 45, 46, 47, 48, 49, 50, 51, 52, 53, 54, 55, 56, 57, 58, 59, 60, 61, 62, 63, 64, 65, 66] rfl gw_X12_sizeOf
set_option maxRecDepth 20000 in
theorem gX12_wholeCuts_X12_sizeOf : GoodIn wsX12_wholeCuts (wsV RX12 163 RX12 yX12_sizeOf wsX12_sizeOf) := goodIn_app (goodIn_r _ [14, 15, 16, 7] rfl (gw_V _ _ _ _)) ggX12_wholeCuts_X12_sizeOf
set_option maxRecDepth 20000 in
theorem ggX12_cuts_X12_isWhole : GoodIn wsX12_cuts wsX12_isWhole := goodIn_r _ [7, 8, 9, 10, 11, 42, 43, 44, 45, 46, 47, 48, 49, 50, 51, 52, 53, 54, 55, 56, 57, 58, 59, 60, 61, 62, 63, 64, 65, 66, 67, 68, 69, 70, 71, 72, 73, 74, 75] rfl gw_X12_isWhole
set_option maxRecDepth 20000 in
theorem gX12_cuts_X12_isWhole : GoodIn wsX12_cuts (wsV RX12 225 RX12 yX12_isWhole wsX12_isWhole) := goodIn_app (goodIn_r _ [3, 4, 5, 6] rfl (gw_V _ _ _ _)) ggX12_cuts_X12_isWhole
set_option maxRecDepth 20000 in
theorem ggX12_cuts_X12_wholeCuts : GoodIn wsX12_cuts wsX12_wholeCuts := goodIn_r _ [15, 2, 16, 8, 17, 18, 19, 6, 20, 21, 22, 23, 24, 25, 26, 27, 28, 29, 9, 10, 30, 31, 32, 33, 34, 35, 36, 11, 37, 38, 39, 40, 41, 42, 43, 44, 45, 46, 47, 48, 49, 50, 51, 52, 53, 54, 55, 56, 57, 58, 59, 60, 61, 62, 63, 64, 65, 66, 67, 68, 69, 70, 71, 72, 73, 74, 75] rfl gw_X12_wholeCuts
set_option maxRecDepth 20000 in
theorem gX12_cuts_X12_wholeCuts : GoodIn wsX12_cuts (wsV RX12 236 RX12 yX12_wholeCuts wsX12_wholeCuts) := goodIn_app (goodIn_r _ [12, 13, 14, 6] rfl (gw_V _ _ _ _)) ggX12_cuts_X12_wholeCuts
set_option maxRecDepth 20000 in
theorem ggX12_cutAt_X12_isWhole : GoodIn wsX12_cutAt wsX12_isWhole := goodIn_r _ [7, 8, 9, 10, 11, 42, 43, 44, 45, 46, 47, 48, 49, 50, 51, 52, 53, 54, 55, 56, 57, 58, 59, 60, 61, 62, 63, 64, 65, 66, 67, 68, 69, 70, 71, 72, 73, 74, 75] rfl gw_X12_isWhole
set_option maxRecDepth 20000 in
theorem gX12_cutAt_X12_isWhole : GoodIn wsX12_cutAt (wsV RX12 225 RX12 yX12_isWhole wsX12_isWhole) := goodIn_app (goodIn_r _ [3, 4, 5, 6] rfl (gw_V _ _ _ _)) ggX12_cutAt_X12_isWhole
set_option maxRecDepth 20000 in
theorem ggX12_cutAt_X12_wholeCuts : GoodIn wsX12_cutAt wsX12_wholeCuts := goodIn_r _ [15, 16, 2, 8, 17, 18, 19, 6, 20, 21, 22, 23, 24, 25, 26, 27, 28, 29, 9, 10, 30, 31, 32, 33, 34, 35, 36, 11, 37, 38, 39, 40, 41, 42, 43, 44, 45, 46, 47, 48, 49, 50, 51, 52, 53, 54, 55, 56, 57, 58, 59, 60, 61, 62, 63, 64, 65, 66, 67, 68, 69, 70, 71, 72, 73, 74, 75] rfl gw_X12_wholeCuts
set_option maxRecDepth 20000 in
theorem gX12_cutAt_X12_wholeCuts : GoodIn wsX12_cutAt (wsV RX12 236 RX12 yX12_wholeCuts wsX12_wholeCuts) := goodIn_app (goodIn_r _ [12, 13, 14, 6] rfl (gw_V _ _ _ _)) ggX12_cutAt_X12_wholeCuts
set_option maxRecDepth 20000 in
theorem ggX12_weak_X12_isLine : GoodIn wsX12_weak wsX12_isLine := goodIn_r _ [10, 11, 12, 13, 9, 14, 43, 44, 45, 46, 47, 48, 49, 50, 51, 52, 53, 54, 55, 56, 57, 58, 59, 60, 61, 62, 63, 64, 65, 66, 67, 68, 69, 70, 71, 72, 73, 74, 75, 76] rfl gw_X12_isLine
set_option maxRecDepth 20000 in
theorem gX12_weak_X12_isLine : GoodIn wsX12_weak (wsV RX12 132 RX12 yX12_isLine wsX12_isLine) := goodIn_app (goodIn_r _ [6, 7, 8, 9] rfl (gw_V _ _ _ _)) ggX12_weak_X12_isLine
set_option maxRecDepth 20000 in
theorem ggX12_weak_X12_isWhole : GoodIn wsX12_weak wsX12_isWhole := goodIn_r _ [18, 3, 11, 2, 19, 43, 44, 45, 46, 47, 48, 49, 50, 51, 52, 53, 54, 55, 56, 57, 58, 59, 60, 61, 62, 63, 64, 65, 66, 67, 68, 69, 70, 71, 72, 73, 74, 75, 76] rfl gw_X12_isWhole
set_option maxRecDepth 20000 in
theorem gX12_weak_X12_isWhole : GoodIn wsX12_weak (wsV RX12 225 RX12 yX12_isWhole wsX12_isWhole) := goodIn_app (goodIn_r _ [15, 16, 17, 9] rfl (gw_V _ _ _ _)) ggX12_weak_X12_isWhole
set_option maxRecDepth 20000 in
theorem ggX12_weak_X12_leastOf : GoodIn wsX12_weak wsX12_leastOf := goodIn_r _ [23, 24, 3, 25, 26, 27, 9, 28, 29, 30, 31, 32, 11, 2, 4, 5, 33, 34, 35, 36, 37, 19, 38, 39, 40, 41, 42, 43, 44, 45, 46, 47, 48, 49, 50, 51, 52, 53, 54, 55, 56, 57, 58, 59, 60, 61, 62, 63, 64, 65, 66, 67, 68, 69, 70, 71, 72, 73, 74, 75, 76] rfl gw_X12_leastOf
set_option maxRecDepth 20000 in
theorem gX12_weak_X12_leastOf : GoodIn wsX12_weak (wsV RX12 232 RX12 yX12_leastOf wsX12_leastOf) := goodIn_app (goodIn_r _ [20, 21, 22, 9] rfl (gw_V _ _ _ _)) ggX12_weak_X12_leastOf
set_option maxRecDepth 20000 in
theorem ggX12_weak_X12_sizeOf : GoodIn wsX12_weak wsX12_sizeOf := goodIn_r _ [32, 11, 2, 4, 5, 24, 33, 34, 35, 9, 36, 37, 19, 38, 39, 40, 41, 42, 43, 44, 45, 46, 47, 48, 49, 50, 51, 52, 53, 54, 55, 56, 57, 58, 59, 60, 61, 62, 63, 64, 65, 66, 67, 68, 69, 70, 71, 72, 73, 74, 75, 76] rfl gw_X12_sizeOf
set_option maxRecDepth 20000 in
theorem gX12_weak_X12_sizeOf : GoodIn wsX12_weak (wsV RX12 163 RX12 yX12_sizeOf wsX12_sizeOf) := goodIn_app (goodIn_r _ [29, 30, 31, 9] rfl (gw_V _ _ _ _)) ggX12_weak_X12_sizeOf
set_option maxRecDepth 20000 in
theorem ggX12_part_X12_isWhole : GoodIn wsX12_part wsX12_isWhole := goodIn_r _ [7, 2, 8, 9, 10, 39, 40, 41, 42, 43, 44, 45, 46, 47, 48, 49, 50, 51, 52, 53, 54, 55, 56, 57, 58, 59, 60, 61, 62, 63, 64, 65, 66, 67, 68, 69, 70, 71, 72] rfl gw_X12_isWhole
set_option maxRecDepth 20000 in
theorem gX12_part_X12_isWhole : GoodIn wsX12_part (wsV RX12 225 RX12 yX12_isWhole wsX12_isWhole) := goodIn_app (goodIn_r _ [3, 4, 5, 6] rfl (gw_V _ _ _ _)) ggX12_part_X12_isWhole
set_option maxRecDepth 20000 in
theorem ggX12_part_X12_isPlace : GoodIn wsX12_part wsX12_isPlace := goodIn_r _ [14, 2, 15, 16, 6, 17, 39, 40, 41, 42, 43, 44, 45, 46, 47, 48, 49, 50, 51, 52, 53, 54, 55, 56, 57, 58, 59, 60, 61, 62, 63, 64, 65, 66, 67, 68, 69, 70, 71, 72] rfl gw_X12_isPlace
set_option maxRecDepth 20000 in
theorem gX12_part_X12_isPlace : GoodIn wsX12_part (wsV RX12 98 RX12 yX12_isPlace wsX12_isPlace) := goodIn_app (goodIn_r _ [11, 12, 13, 6] rfl (gw_V _ _ _ _)) ggX12_part_X12_isPlace
set_option maxRecDepth 20000 in
theorem ggX12_part_X12_mostOf : GoodIn wsX12_part wsX12_mostOf := goodIn_r _ [21, 22, 2, 23, 24, 25, 6, 26, 8, 9, 27, 28, 29, 30, 31, 32, 33, 10, 34, 35, 36, 37, 38, 39, 40, 41, 42, 43, 44, 45, 46, 47, 48, 49, 50, 51, 52, 53, 54, 55, 56, 57, 58, 59, 60, 61, 62, 63, 64, 65, 66, 67, 68, 69, 70, 71, 72] rfl gw_X12_mostOf
set_option maxRecDepth 20000 in
theorem gX12_part_X12_mostOf : GoodIn wsX12_part (wsV RX12 166 RX12 yX12_mostOf wsX12_mostOf) := goodIn_app (goodIn_r _ [18, 19, 20, 6] rfl (gw_V _ _ _ _)) ggX12_part_X12_mostOf
set_option maxRecDepth 20000 in
theorem ggX12_dense_X12_in : GoodIn wsX12_dense wsX12_in := goodIn_r _ [12] rfl gw_X12_in
set_option maxRecDepth 20000 in
theorem gX12_dense_X12_in : GoodIn wsX12_dense (va_wsS RX12 91 yX12_in wsX12_in) := goodIn_app (goodIn_r _ [9, 10, 11] rfl (gw_S _ _ _)) ggX12_dense_X12_in
set_option maxRecDepth 20000 in
theorem ggX12_dense_X12_isWhole : GoodIn wsX12_dense wsX12_isWhole := goodIn_r _ [16, 3, 4, 5, 17, 21, 22, 23, 24, 25, 26, 27, 28, 29, 30, 31, 32, 33, 34, 35, 36, 37, 38, 39, 40, 41, 42, 43, 44, 45, 46, 47, 48, 49, 50, 51, 52, 53, 54] rfl gw_X12_isWhole
set_option maxRecDepth 20000 in
theorem gX12_dense_X12_isWhole : GoodIn wsX12_dense (wsV RX12 225 RX12 yX12_isWhole wsX12_isWhole) := goodIn_app (goodIn_r _ [13, 14, 15, 11] rfl (gw_V _ _ _ _)) ggX12_dense_X12_isWhole
set_option maxRecDepth 20000 in
theorem ggX12_dense_X12_bitsOf : GoodIn wsX12_dense wsX12_bitsOf := goodIn_r _ [20] rfl gw_X12_bitsOf
set_option maxRecDepth 20000 in
theorem gX12_dense_X12_bitsOf : GoodIn wsX12_dense (va_wsS RX12 204 yX12_bitsOf wsX12_bitsOf) := goodIn_app (goodIn_r _ [18, 19, 11] rfl (gw_S _ _ _)) ggX12_dense_X12_bitsOf
set_option maxRecDepth 20000 in
theorem ggX12_map_X12_in : GoodIn wsX12_map wsX12_in := goodIn_r _ [12] rfl gw_X12_in
set_option maxRecDepth 20000 in
theorem gX12_map_X12_in : GoodIn wsX12_map (va_wsS RX12 91 yX12_in wsX12_in) := goodIn_app (goodIn_r _ [9, 10, 11] rfl (gw_S _ _ _)) ggX12_map_X12_in
set_option maxRecDepth 20000 in
theorem ggX12_map_X12_no : GoodIn wsX12_map wsX12_no := goodIn_r _ [16, 2, 17, 18, 19, 20, 21, 22, 23, 24, 25, 26, 27, 28, 29, 30, 31, 32, 33, 34, 35, 36, 37, 38, 39, 40, 41, 42, 43, 44, 45, 46, 47, 48, 49, 50] rfl gw_X12_no
set_option maxRecDepth 20000 in
theorem gX12_map_X12_no : GoodIn wsX12_map (wsV RX12 245 RX12 yX12_no wsX12_no) := goodIn_app (goodIn_r _ [13, 14, 15, 11] rfl (gw_V _ _ _ _)) ggX12_map_X12_no
set_option maxRecDepth 20000 in
theorem ggX12_row_X12_in : GoodIn wsX12_row wsX12_in := goodIn_r _ [11] rfl gw_X12_in
set_option maxRecDepth 20000 in
theorem gX12_row_X12_in : GoodIn wsX12_row (va_wsS RX12 91 yX12_in wsX12_in) := goodIn_app (goodIn_r _ [8, 9, 10] rfl (gw_S _ _ _)) ggX12_row_X12_in
set_option maxRecDepth 20000 in
theorem ggX12_row_X12_no : GoodIn wsX12_row wsX12_no := goodIn_r _ [15, 2, 16, 17, 18, 19, 20, 21, 22, 23, 24, 25, 26, 27, 28, 29, 30, 31, 32, 33, 34, 35, 36, 37, 38, 39, 40, 41, 42, 43, 44, 45, 46, 47, 48, 49] rfl gw_X12_no
set_option maxRecDepth 20000 in
theorem gX12_row_X12_no : GoodIn wsX12_row (wsV RX12 245 RX12 yX12_no wsX12_no) := goodIn_app (goodIn_r _ [12, 13, 14, 10] rfl (gw_V _ _ _ _)) ggX12_row_X12_no
set_option maxRecDepth 20000 in
theorem ggX12_wrong_X12_in : GoodIn wsX12_wrong wsX12_in := goodIn_r _ [10] rfl gw_X12_in
set_option maxRecDepth 20000 in
theorem gX12_wrong_X12_in : GoodIn wsX12_wrong (va_wsS RX12 91 yX12_in wsX12_in) := goodIn_app (goodIn_r _ [7, 8, 9] rfl (gw_S _ _ _)) ggX12_wrong_X12_in
set_option maxRecDepth 20000 in
theorem ggX12_put_X12_wrong : GoodIn wsX12_put wsX12_wrong := goodIn_r _ [8, 9, 10, 11, 12, 13, 14, 15, 16, 7, 17, 22, 23, 24, 25, 26, 27, 28, 29, 30, 31, 32, 33, 34, 35, 36, 37, 38, 39, 40, 41, 42, 43, 44, 45, 46, 47, 48, 49, 50, 51, 52, 53, 54, 55] rfl gw_X12_wrong
set_option maxRecDepth 20000 in
theorem gX12_put_X12_wrong : GoodIn wsX12_put (wsV RX12 248 RX12 yX12_wrong wsX12_wrong) := goodIn_app (goodIn_r _ [4, 5, 6, 7] rfl (gw_V _ _ _ _)) ggX12_put_X12_wrong
set_option maxRecDepth 20000 in
theorem ggX12_put_X12_no : GoodIn wsX12_put wsX12_no := goodIn_r _ [21, 2, 22, 23, 24, 25, 26, 27, 28, 29, 30, 31, 32, 33, 34, 35, 36, 37, 38, 39, 40, 41, 42, 43, 44, 45, 46, 47, 48, 49, 50, 51, 52, 53, 54, 55] rfl gw_X12_no
set_option maxRecDepth 20000 in
theorem gX12_put_X12_no : GoodIn wsX12_put (wsV RX12 245 RX12 yX12_no wsX12_no) := goodIn_app (goodIn_r _ [18, 19, 20, 7] rfl (gw_V _ _ _ _)) ggX12_put_X12_no
set_option maxRecDepth 20000 in
theorem ggX12_copy_X12_in : GoodIn wsX12_copy wsX12_in := goodIn_r _ [12] rfl gw_X12_in
set_option maxRecDepth 20000 in
theorem gX12_copy_X12_in : GoodIn wsX12_copy (va_wsS RX12 91 yX12_in wsX12_in) := goodIn_app (goodIn_r _ [9, 10, 11] rfl (gw_S _ _ _)) ggX12_copy_X12_in
set_option maxRecDepth 20000 in
theorem ggX12_copy_X12_no : GoodIn wsX12_copy wsX12_no := goodIn_r _ [16, 2, 20, 21, 22, 23, 24, 25, 26, 27, 28, 29, 30, 31, 32, 33, 34, 35, 36, 37, 38, 39, 40, 41, 42, 43, 44, 45, 46, 47, 48, 49, 50, 51, 52, 53] rfl gw_X12_no
set_option maxRecDepth 20000 in
theorem gX12_copy_X12_no : GoodIn wsX12_copy (wsV RX12 245 RX12 yX12_no wsX12_no) := goodIn_app (goodIn_r _ [13, 14, 15, 11] rfl (gw_V _ _ _ _)) ggX12_copy_X12_no
set_option maxRecDepth 20000 in
theorem ggX12_copy_X12_areThere : GoodIn wsX12_copy wsX12_areThere := goodIn_r _ [19] rfl gw_X12_areThere
set_option maxRecDepth 20000 in
theorem gX12_copy_X12_areThere : GoodIn wsX12_copy (va_wsS RX12 252 yX12_areThere wsX12_areThere) := goodIn_app (goodIn_r _ [17, 18, 11] rfl (gw_S _ _ _)) ggX12_copy_X12_areThere
set_option maxRecDepth 20000 in
theorem ggX12_item_X12_wrong : GoodIn wsX12_item wsX12_wrong := goodIn_r _ [8, 9, 10, 11, 12, 13, 14, 15, 16, 7, 17, 18, 19, 20, 21, 22, 23, 24, 25, 26, 27, 28, 29, 30, 31, 32, 33, 34, 35, 36, 37, 38, 39, 40, 41, 42, 43, 44, 45, 46, 47, 48, 49, 50, 51] rfl gw_X12_wrong
set_option maxRecDepth 20000 in
theorem gX12_item_X12_wrong : GoodIn wsX12_item (wsV RX12 248 RX12 yX12_wrong wsX12_wrong) := goodIn_app (goodIn_r _ [4, 5, 6, 7] rfl (gw_V _ _ _ _)) ggX12_item_X12_wrong
set_option maxRecDepth 20000 in
theorem ggX12_read_X12_in : GoodIn wsX12_read wsX12_in := goodIn_r _ [11] rfl gw_X12_in
set_option maxRecDepth 20000 in
theorem gX12_read_X12_in : GoodIn wsX12_read (va_wsS RX12 91 yX12_in wsX12_in) := goodIn_app (goodIn_r _ [8, 9, 10] rfl (gw_S _ _ _)) ggX12_read_X12_in
set_option maxRecDepth 20000 in
theorem ggX12_read_X12_no : GoodIn wsX12_read wsX12_no := goodIn_r _ [15, 2, 45, 46, 47, 48, 49, 50, 51, 52, 53, 54, 55, 56, 57, 58, 59, 60, 61, 62, 63, 64, 65, 66, 67, 68, 69, 70, 71, 72, 73, 74, 75, 76, 77, 78] rfl gw_X12_no
set_option maxRecDepth 20000 in
theorem gX12_read_X12_no : GoodIn wsX12_read (wsV RX12 245 RX12 yX12_no wsX12_no) := goodIn_app (goodIn_r _ [12, 13, 14, 10] rfl (gw_V _ _ _ _)) ggX12_read_X12_no
set_option maxRecDepth 20000 in
theorem ggX12_read_X12_refused : GoodIn wsX12_read wsX12_refused := goodIn_r _ [19, 20, 21, 22, 23, 24, 8, 9, 10, 11, 45, 46, 47, 48, 49, 50, 51, 52, 53, 54, 55, 56, 57, 58, 59, 60, 61, 62, 63, 64, 65, 66, 67, 68, 69, 70, 71, 72, 73, 74, 75, 76, 77, 78] rfl gw_X12_refused
set_option maxRecDepth 20000 in
theorem gX12_read_X12_refused : GoodIn wsX12_read (wsV RX12 120 RX12 yX12_refused wsX12_refused) := goodIn_app (goodIn_r _ [16, 17, 18, 10] rfl (gw_V _ _ _ _)) ggX12_read_X12_refused
set_option maxRecDepth 20000 in
theorem ggX12_read_X12_keeps : GoodIn wsX12_read wsX12_keeps := goodIn_r _ [28, 29, 30, 31, 32, 21, 24, 33, 34, 35, 36, 37, 38, 45, 46, 47, 48, 49, 50, 51, 52, 53, 54, 55, 56, 57, 58, 59, 60, 61, 62, 63, 64, 65, 66, 67, 68, 69, 70, 71, 72, 73, 74, 75, 76, 77, 78] rfl gw_X12_keeps
set_option maxRecDepth 20000 in
theorem gX12_read_X12_keeps : GoodIn wsX12_read (wsV RX12 105 RX12 yX12_keeps wsX12_keeps) := goodIn_app (goodIn_r _ [25, 26, 27, 10] rfl (gw_V _ _ _ _)) ggX12_read_X12_keeps
set_option maxRecDepth 20000 in
theorem ggX12_read_X12_adds : GoodIn wsX12_read wsX12_adds := goodIn_r _ [42, 33, 24, 34, 35, 36, 37, 38, 43, 44, 45, 46, 47, 48, 49, 50, 51, 52, 53, 54, 55, 56, 57, 58, 59, 60, 61, 62, 63, 64, 65, 66, 67, 68, 69, 70, 71, 72, 73, 74, 75, 76, 77, 78] rfl gw_X12_adds
set_option maxRecDepth 20000 in
theorem gX12_read_X12_adds : GoodIn wsX12_read (wsV RX12 124 RX12 yX12_adds wsX12_adds) := goodIn_app (goodIn_r _ [39, 40, 41, 10] rfl (gw_V _ _ _ _)) ggX12_read_X12_adds
set_option maxRecDepth 20000 in
theorem ggX12_about_X12_isWhole : GoodIn wsX12_about wsX12_isWhole := goodIn_r _ [10, 4, 2, 3, 11, 12, 13, 14, 15, 16, 17, 18, 19, 20, 21, 22, 23, 24, 25, 26, 27, 28, 29, 30, 31, 32, 33, 34, 35, 36, 37, 38, 39, 40, 41, 42, 43, 44, 45] rfl gw_X12_isWhole
set_option maxRecDepth 20000 in
theorem gX12_about_X12_isWhole : GoodIn wsX12_about (wsV RX12 225 RX12 yX12_isWhole wsX12_isWhole) := goodIn_app (goodIn_r _ [6, 7, 8, 9] rfl (gw_V _ _ _ _)) ggX12_about_X12_isWhole
