set_option maxRecDepth 20000 in
theorem ggX0_figureAt_X0_at : GoodIn wsX0_figureAt wsX0_at := goodIn_r _ [5, 6, 7, 8, 9] (by decide +kernel) (by decide +kernel)
set_option maxRecDepth 20000 in
theorem gX0_figureAt_X0_at : GoodIn wsX0_figureAt (wsV RX0 19 RX0 yX0_at wsX0_at) := goodIn_app (goodIn_of _ (by decide +kernel)) ggX0_figureAt_X0_at
set_option maxRecDepth 20000 in
theorem ggX1_init_X8_init : GoodIn wsX1_init wsX8_init := goodIn_r _ [14, 15, 2, 3, 16, 17, 18, 19, 20, 21, 24, 25, 26, 27, 28] (by decide +kernel) (by decide +kernel)
set_option maxRecDepth 20000 in
theorem gX1_init_X8_init_n25 : GoodIn wsX1_init (wsX8_init) := ggX1_init_X8_init
set_option maxRecDepth 20000 in
theorem ggX1_push_X1_isFull : GoodIn wsX1_push wsX1_isFull := goodIn_r _ [6, 1, 7, 30, 31] (by decide +kernel) (by decide +kernel)
set_option maxRecDepth 20000 in
theorem gX1_push_X1_isFull : GoodIn wsX1_push (wsV RX1 26 RX1 yX1_isFull wsX1_isFull) := goodIn_app (goodIn_of _ (by decide +kernel)) ggX1_push_X1_isFull
set_option maxRecDepth 20000 in
theorem ggX1_push_X1_dropOldest : GoodIn wsX1_push wsX1_dropOldest := goodIn_r _ [11, 7, 1, 30, 31] (by decide +kernel) (by decide +kernel)
set_option maxRecDepth 20000 in
theorem gX1_push_X1_dropOldest : GoodIn wsX1_push (wsV RX1 30 RX1 yX1_dropOldest wsX1_dropOldest) := goodIn_app (goodIn_of _ (by decide +kernel)) ggX1_push_X1_dropOldest
set_option maxRecDepth 20000 in
theorem ggX1_push_X1_at : GoodIn wsX1_push wsX1_at := goodIn_r _ [15, 7, 30, 31] (by decide +kernel) (by decide +kernel)
set_option maxRecDepth 20000 in
theorem gX1_push_X1_at : GoodIn wsX1_push (wsV RX1 33 RX1 yX1_at wsX1_at) := goodIn_app (goodIn_of _ (by decide +kernel)) ggX1_push_X1_at
set_option maxRecDepth 20000 in
theorem ggX1_push_X8_copyFrom : GoodIn wsX1_push wsX8_copyFrom := goodIn_r _ [20, 21, 22, 23, 24, 25, 26, 27, 28, 29, 32, 33, 34, 35, 36] (by decide +kernel) (by decide +kernel)
set_option maxRecDepth 20000 in
theorem gX1_push_X8_copyFrom : GoodIn wsX1_push (wsV RX1 37 RX8 yX8_copyFrom wsX8_copyFrom) := goodIn_app (goodIn_of _ (by decide +kernel)) ggX1_push_X8_copyFrom
set_option maxRecDepth 20000 in
theorem ggX1_popInto_X1_at : GoodIn wsX1_popInto wsX1_at := goodIn_r _ [6, 7, 22, 23] (by decide +kernel) (by decide +kernel)
set_option maxRecDepth 20000 in
theorem gX1_popInto_X1_at : GoodIn wsX1_popInto (wsV RX1 33 RX1 yX1_at wsX1_at) := goodIn_app (goodIn_of _ (by decide +kernel)) ggX1_popInto_X1_at
set_option maxRecDepth 20000 in
theorem ggX1_popInto_X8_copyFrom : GoodIn wsX1_popInto wsX8_copyFrom := goodIn_r _ [12, 13, 14, 15, 16, 17, 18, 19, 20, 21, 24, 25, 26, 27, 28] (by decide +kernel) (by decide +kernel)
set_option maxRecDepth 20000 in
theorem gX1_popInto_X8_copyFrom : GoodIn wsX1_popInto (wsV RX1 37 RX8 yX8_copyFrom wsX8_copyFrom) := goodIn_app (goodIn_of _ (by decide +kernel)) ggX1_popInto_X8_copyFrom
set_option maxRecDepth 20000 in
theorem ggX2_clear_J7_fill_53178 : GoodIn wsX2_clear wsJ7_fill_53178 := goodIn_r _ [9] (by decide +kernel) (by decide +kernel)
set_option maxRecDepth 20000 in
theorem gX2_clear_J7_fill_53178 : GoodIn wsX2_clear (va_wsS RX2 34 yJ7_fill_53178 wsJ7_fill_53178) := goodIn_app (goodIn_of _ (by decide +kernel)) ggX2_clear_J7_fill_53178
set_option maxRecDepth 20000 in
theorem ggX2_addRow_X2_cellCount : GoodIn wsX2_addRow wsX2_cellCount := goodIn_r _ [8, 1, 2, 9, 10, 11, 12, 13, 14, 15] (by decide +kernel) (by decide +kernel)
set_option maxRecDepth 20000 in
theorem gX2_addRow_X2_cellCount : GoodIn wsX2_addRow (wsV RX2 46 RX2 yX2_cellCount wsX2_cellCount) := goodIn_app (goodIn_of _ (by decide +kernel)) ggX2_addRow_X2_cellCount
set_option maxRecDepth 20000 in
theorem ggX2_addCase_X2_cellCount : GoodIn wsX2_addCase wsX2_cellCount := goodIn_r _ [11, 12, 13, 14, 15, 16, 17, 18, 19, 20] (by decide +kernel) (by decide +kernel)
set_option maxRecDepth 20000 in
theorem gX2_addCase_X2_cellCount : GoodIn wsX2_addCase (wsV RX2 46 RX2 yX2_cellCount wsX2_cellCount) := goodIn_app (goodIn_of _ (by decide +kernel)) ggX2_addCase_X2_cellCount
set_option maxRecDepth 20000 in
theorem ggX2_addMaid_X2_cellCount : GoodIn wsX2_addMaid wsX2_cellCount := goodIn_r _ [11, 12, 13, 14, 15, 16, 17, 18, 19, 20] (by decide +kernel) (by decide +kernel)
set_option maxRecDepth 20000 in
theorem gX2_addMaid_X2_cellCount : GoodIn wsX2_addMaid (wsV RX2 46 RX2 yX2_cellCount wsX2_cellCount) := goodIn_app (goodIn_of _ (by decide +kernel)) ggX2_addMaid_X2_cellCount
set_option maxRecDepth 20000 in
theorem ggX2_layOut_X8_clear : GoodIn wsX2_layOut wsX8_clear := goodIn_r _ [7, 8, 9, 10, 11, 12, 13, 14, 15, 16, 53, 54, 55, 56, 57] (by decide +kernel) (by decide +kernel)
set_option maxRecDepth 20000 in
theorem gX2_layOut_X8_clear : GoodIn wsX2_layOut (wsV RX2 50 RX8 yX8_clear wsX8_clear) := goodIn_app (goodIn_of _ (by decide +kernel)) ggX2_layOut_X8_clear
set_option maxRecDepth 20000 in
theorem ggX2_layOut_X8_setHigh : GoodIn wsX2_layOut wsX8_setHigh := goodIn_r _ [20, 8, 21, 22, 23, 24, 25, 26, 27, 53, 54, 55, 56, 57] (by decide +kernel) (by decide +kernel)
set_option maxRecDepth 20000 in
theorem gX2_layOut_X8_setHigh : GoodIn wsX2_layOut (wsV RX2 55 RX8 yX8_setHigh wsX8_setHigh) := goodIn_app (goodIn_of _ (by decide +kernel)) ggX2_layOut_X8_setHigh
set_option maxRecDepth 20000 in
theorem ggX2_layOut_X2_ofMaid : GoodIn wsX2_layOut wsX2_ofMaid := goodIn_r _ [32, 33, 46, 47, 48, 49, 50, 51, 52] (by decide +kernel) (by decide +kernel)
set_option maxRecDepth 20000 in
theorem gX2_layOut_X2_ofMaid : GoodIn wsX2_layOut (wsV RX2 59 RX2 yX2_ofMaid wsX2_ofMaid) := goodIn_app (goodIn_of _ (by decide +kernel)) ggX2_layOut_X2_ofMaid
set_option maxRecDepth 20000 in
theorem ggX2_layOut_X8_setPlace : GoodIn wsX2_layOut wsX8_setPlace := goodIn_r _ [37, 10, 53, 54, 55, 56, 57] (by decide +kernel) (by decide +kernel)
set_option maxRecDepth 20000 in
theorem gX2_layOut_X8_setPlace : GoodIn wsX2_layOut (wsV RX2 63 RX8 yX8_setPlace wsX8_setPlace) := goodIn_app (goodIn_of _ (by decide +kernel)) ggX2_layOut_X8_setPlace
set_option maxRecDepth 20000 in
theorem ggX2_layOut_X2_giveStrokes : GoodIn wsX2_layOut wsX2_giveStrokes := goodIn_r _ [41, 2, 28, 29, 30, 31, 32, 33, 42, 43, 44, 6, 45, 9, 46, 47, 48, 49, 50, 51, 52, 53, 54, 55, 56, 57] (by decide +kernel) (by decide +kernel)
set_option maxRecDepth 20000 in
theorem gX2_layOut_X2_giveStrokes : GoodIn wsX2_layOut (wsV RX2 66 RX2 yX2_giveStrokes wsX2_giveStrokes) := goodIn_app (goodIn_of _ (by decide +kernel)) ggX2_layOut_X2_giveStrokes
set_option maxRecDepth 20000 in
theorem ggX2_after_X2_wayFrom : GoodIn wsX2_after wsX2_wayFrom := goodIn_r _ [5, 6, 7, 8, 9, 10, 11, 12, 13, 14] (by decide +kernel) (by decide +kernel)
set_option maxRecDepth 20000 in
theorem gX2_after_X2_wayFrom : GoodIn wsX2_after (wsV RX2 70 RX2 yX2_wayFrom wsX2_wayFrom) := goodIn_app (goodIn_of _ (by decide +kernel)) ggX2_after_X2_wayFrom
set_option maxRecDepth 20000 in
theorem ggX2_reaches_X2_wayFrom : GoodIn wsX2_reaches wsX2_wayFrom := goodIn_r _ [5, 6, 7, 8, 9, 10, 11, 12, 13, 14] (by decide +kernel) (by decide +kernel)
set_option maxRecDepth 20000 in
theorem gX2_reaches_X2_wayFrom : GoodIn wsX2_reaches (wsV RX2 70 RX2 yX2_wayFrom wsX2_wayFrom) := goodIn_app (goodIn_of _ (by decide +kernel)) ggX2_reaches_X2_wayFrom
set_option maxRecDepth 20000 in
theorem ggX2_raisesOwn_X2_ofCase : GoodIn wsX2_raisesOwn wsX2_ofCase := goodIn_r _ [5, 6, 10, 11, 12, 13, 14, 15, 16] (by decide +kernel) (by decide +kernel)
set_option maxRecDepth 20000 in
theorem gX2_raisesOwn_X2_ofCase : GoodIn wsX2_raisesOwn (wsV RX2 73 RX2 yX2_ofCase wsX2_ofCase) := goodIn_app (goodIn_of _ (by decide +kernel)) ggX2_raisesOwn_X2_ofCase
set_option maxRecDepth 20000 in
theorem ggX2_raisesOwn_X9_isHollow : GoodIn wsX2_raisesOwn wsX9_isHollow := goodIn_r _ [9] (by decide +kernel) (by decide +kernel)
set_option maxRecDepth 20000 in
theorem gX2_raisesOwn_X9_isHollow_n76 : GoodIn wsX2_raisesOwn (wsX9_isHollow) := ggX2_raisesOwn_X9_isHollow
set_option maxRecDepth 20000 in
theorem ggX2_comeUp_X2_ofCase : GoodIn wsX2_comeUp wsX2_ofCase := goodIn_r _ [5, 6, 46, 47, 48, 49, 50, 51, 52] (by decide +kernel) (by decide +kernel)
set_option maxRecDepth 20000 in
theorem gX2_comeUp_X2_ofCase : GoodIn wsX2_comeUp (wsV RX2 73 RX2 yX2_ofCase wsX2_ofCase) := goodIn_app (goodIn_of _ (by decide +kernel)) ggX2_comeUp_X2_ofCase
set_option maxRecDepth 20000 in
theorem ggX2_comeUp_X8_highAt : GoodIn wsX2_comeUp wsX8_highAt := goodIn_r _ [11, 12, 53, 54, 55, 56, 57] (by decide +kernel) (by decide +kernel)
set_option maxRecDepth 20000 in
theorem gX2_comeUp_X8_highAt : GoodIn wsX2_comeUp (wsV RX2 80 RX8 yX8_highAt wsX8_highAt) := goodIn_app (goodIn_of _ (by decide +kernel)) ggX2_comeUp_X8_highAt
set_option maxRecDepth 20000 in
theorem ggX2_comeUp_X2_raisesOwn : GoodIn wsX2_comeUp wsX2_raisesOwn := goodIn_r _ [16, 1, 2, 3, 4, 5, 6, 17, 18, 19, 46, 47, 48, 49, 50, 51, 52] (by decide +kernel) (by decide +kernel)
set_option maxRecDepth 20000 in
theorem gX2_comeUp_X2_raisesOwn : GoodIn wsX2_comeUp (wsV RX2 84 RX2 yX2_raisesOwn wsX2_raisesOwn) := goodIn_app (goodIn_of _ (by decide +kernel)) ggX2_comeUp_X2_raisesOwn
set_option maxRecDepth 20000 in
theorem ggX2_comeUp_X8_raise : GoodIn wsX2_comeUp wsX8_raise := goodIn_r _ [23, 24, 8, 9, 10, 11, 12, 25, 26, 27, 28, 29, 30, 31, 32, 33, 34, 35, 53, 54, 55, 56, 57] (by decide +kernel) (by decide +kernel)
set_option maxRecDepth 20000 in
theorem gX2_comeUp_X8_raise : GoodIn wsX2_comeUp (wsV RX2 87 RX8 yX8_raise wsX8_raise) := goodIn_app (goodIn_of _ (by decide +kernel)) ggX2_comeUp_X8_raise
set_option maxRecDepth 20000 in
theorem ggX2_comeUp_X2_after : GoodIn wsX2_comeUp wsX2_after := goodIn_r _ [39, 40, 41, 42, 4, 43, 44, 45, 46, 47, 48, 49, 50, 51, 52] (by decide +kernel) (by decide +kernel)
set_option maxRecDepth 20000 in
theorem gX2_comeUp_X2_after : GoodIn wsX2_comeUp (wsV RX2 90 RX2 yX2_after wsX2_after) := goodIn_app (goodIn_of _ (by decide +kernel)) ggX2_comeUp_X2_after
set_option maxRecDepth 20000 in
theorem ggX2_comeUp_X2_wayFrom : GoodIn wsX2_comeUp wsX2_wayFrom := goodIn_r _ [43, 44, 45, 46, 47, 48, 49, 50, 51, 52] (by decide +kernel) (by decide +kernel)
set_option maxRecDepth 20000 in
theorem gX2_comeUp_X2_wayFrom : GoodIn wsX2_comeUp (wsV RX2 70 RX2 yX2_wayFrom wsX2_wayFrom) := goodIn_app (goodIn_of _ (by decide +kernel)) ggX2_comeUp_X2_wayFrom
set_option maxRecDepth 20000 in
theorem ggX2_yearsGoBy_X2_ofCase : GoodIn wsX2_yearsGoBy wsX2_ofCase := goodIn_r _ [6, 7, 80, 81, 82, 83, 84, 85, 86] (by decide +kernel) (by decide +kernel)
set_option maxRecDepth 20000 in
theorem gX2_yearsGoBy_X2_ofCase : GoodIn wsX2_yearsGoBy (wsV RX2 73 RX2 yX2_ofCase wsX2_ofCase) := goodIn_app (goodIn_of _ (by decide +kernel)) ggX2_yearsGoBy_X2_ofCase
set_option maxRecDepth 20000 in
theorem ggX2_yearsGoBy_X8_yearIs : GoodIn wsX2_yearsGoBy wsX8_yearIs := goodIn_r _ [12, 13, 87, 88, 89, 90, 91] (by decide +kernel) (by decide +kernel)
set_option maxRecDepth 20000 in
theorem gX2_yearsGoBy_X8_yearIs : GoodIn wsX2_yearsGoBy (wsV RX2 93 RX8 yX8_yearIs wsX8_yearIs) := goodIn_app (goodIn_of _ (by decide +kernel)) ggX2_yearsGoBy_X8_yearIs
set_option maxRecDepth 20000 in
theorem ggX2_yearsGoBy_X8_isPardoned : GoodIn wsX2_yearsGoBy wsX8_isPardoned := goodIn_r _ [17, 18, 87, 88, 89, 90, 91] (by decide +kernel) (by decide +kernel)
set_option maxRecDepth 20000 in
theorem gX2_yearsGoBy_X8_isPardoned : GoodIn wsX2_yearsGoBy (wsV RX2 96 RX8 yX8_isPardoned wsX8_isPardoned) := goodIn_app (goodIn_of _ (by decide +kernel)) ggX2_yearsGoBy_X8_isPardoned
set_option maxRecDepth 20000 in
theorem ggX2_yearsGoBy_X2_comeUp : GoodIn wsX2_yearsGoBy wsX2_comeUp := goodIn_r _ [22, 2, 3, 4, 5, 6, 7, 23, 24, 25, 11, 26, 27, 28, 29, 30, 31, 32, 33, 34, 35, 36, 37, 38, 39, 40, 41, 42, 43, 44, 45, 46, 47, 48, 49, 50, 51, 52, 53, 54, 55, 56, 57, 58, 59, 60, 80, 81, 82, 83, 84, 85, 86, 87, 88, 89, 90, 91] (by decide +kernel) (by decide +kernel)
set_option maxRecDepth 20000 in
theorem gX2_yearsGoBy_X2_comeUp : GoodIn wsX2_yearsGoBy (wsV RX2 99 RX2 yX2_comeUp wsX2_comeUp) := goodIn_app (goodIn_of _ (by decide +kernel)) ggX2_yearsGoBy_X2_comeUp
set_option maxRecDepth 20000 in
theorem ggX2_yearsGoBy_X2_giveStrokes : GoodIn wsX2_yearsGoBy wsX2_giveStrokes := goodIn_r _ [64, 65, 66, 67, 68, 5, 69, 70, 71, 72, 73, 11, 74, 75, 80, 81, 82, 83, 84, 85, 86, 87, 88, 89, 90, 91] (by decide +kernel) (by decide +kernel)
set_option maxRecDepth 20000 in
theorem gX2_yearsGoBy_X2_giveStrokes : GoodIn wsX2_yearsGoBy (wsV RX2 66 RX2 yX2_giveStrokes wsX2_giveStrokes) := goodIn_app (goodIn_of _ (by decide +kernel)) ggX2_yearsGoBy_X2_giveStrokes
set_option maxRecDepth 20000 in
theorem ggX2_yearsGoBy_X8_nextYear : GoodIn wsX2_yearsGoBy wsX8_nextYear := goodIn_r _ [79, 13, 87, 88, 89, 90, 91] (by decide +kernel) (by decide +kernel)
set_option maxRecDepth 20000 in
theorem gX2_yearsGoBy_X8_nextYear : GoodIn wsX2_yearsGoBy (wsV RX2 103 RX8 yX8_nextYear wsX8_nextYear) := goodIn_app (goodIn_of _ (by decide +kernel)) ggX2_yearsGoBy_X8_nextYear
set_option maxRecDepth 20000 in
theorem ggX2_giveStrokes_X2_ofMaid : GoodIn wsX2_giveStrokes wsX2_ofMaid := goodIn_r _ [6, 7, 14, 15, 16, 17, 18, 19, 20] (by decide +kernel) (by decide +kernel)
set_option maxRecDepth 20000 in
theorem gX2_giveStrokes_X2_ofMaid : GoodIn wsX2_giveStrokes (wsV RX2 59 RX2 yX2_ofMaid wsX2_ofMaid) := goodIn_app (goodIn_of _ (by decide +kernel)) ggX2_giveStrokes_X2_ofMaid
set_option maxRecDepth 20000 in
theorem ggX2_giveStrokes_X8_setLeft : GoodIn wsX2_giveStrokes wsX8_setLeft := goodIn_r _ [12, 13, 21, 22, 23, 24, 25] (by decide +kernel) (by decide +kernel)
set_option maxRecDepth 20000 in
theorem gX2_giveStrokes_X8_setLeft : GoodIn wsX2_giveStrokes (wsV RX2 106 RX8 yX8_setLeft wsX8_setLeft) := goodIn_app (goodIn_of _ (by decide +kernel)) ggX2_giveStrokes_X8_setLeft
set_option maxRecDepth 20000 in
theorem ggX2_takes_X2_ofMaid : GoodIn wsX2_takes wsX2_ofMaid := goodIn_r _ [5, 6, 10, 11, 12, 13, 14, 15, 16] (by decide +kernel) (by decide +kernel)
set_option maxRecDepth 20000 in
theorem gX2_takes_X2_ofMaid : GoodIn wsX2_takes (wsV RX2 59 RX2 yX2_ofMaid wsX2_ofMaid) := goodIn_app (goodIn_of _ (by decide +kernel)) ggX2_takes_X2_ofMaid
set_option maxRecDepth 20000 in
theorem ggX2_takes_X9_isHollow : GoodIn wsX2_takes wsX9_isHollow := goodIn_r _ [9] (by decide +kernel) (by decide +kernel)
set_option maxRecDepth 20000 in
theorem gX2_takes_X9_isHollow_n76 : GoodIn wsX2_takes (wsX9_isHollow) := ggX2_takes_X9_isHollow
set_option maxRecDepth 20000 in
theorem ggX2_takesAfter_X2_ofMaid : GoodIn wsX2_takesAfter wsX2_ofMaid := goodIn_r _ [5, 6, 7, 8, 9, 10, 11, 12, 13] (by decide +kernel) (by decide +kernel)
set_option maxRecDepth 20000 in
theorem gX2_takesAfter_X2_ofMaid : GoodIn wsX2_takesAfter (wsV RX2 59 RX2 yX2_ofMaid wsX2_ofMaid) := goodIn_app (goodIn_of _ (by decide +kernel)) ggX2_takesAfter_X2_ofMaid
set_option maxRecDepth 20000 in
theorem ggX2_canStrike_X8_leftTo : GoodIn wsX2_canStrike wsX8_leftTo := goodIn_r _ [5, 6, 23, 24, 25, 26, 27] (by decide +kernel) (by decide +kernel)
set_option maxRecDepth 20000 in
theorem gX2_canStrike_X8_leftTo : GoodIn wsX2_canStrike (wsV RX2 109 RX8 yX8_leftTo wsX8_leftTo) := goodIn_app (goodIn_of _ (by decide +kernel)) ggX2_canStrike_X8_leftTo
set_option maxRecDepth 20000 in
theorem ggX2_canStrike_X8_placeOf : GoodIn wsX2_canStrike wsX8_placeOf := goodIn_r _ [10, 11, 23, 24, 25, 26, 27] (by decide +kernel) (by decide +kernel)
set_option maxRecDepth 20000 in
theorem gX2_canStrike_X8_placeOf : GoodIn wsX2_canStrike (wsV RX2 112 RX8 yX8_placeOf wsX8_placeOf) := goodIn_app (goodIn_of _ (by decide +kernel)) ggX2_canStrike_X8_placeOf
set_option maxRecDepth 20000 in
theorem ggX2_canStrike_X2_reaches : GoodIn wsX2_canStrike wsX2_reaches := goodIn_r _ [16, 17, 18, 19, 15, 20, 21, 22, 28, 29, 30, 31, 32, 33, 34] (by decide +kernel) (by decide +kernel)
set_option maxRecDepth 20000 in
theorem gX2_canStrike_X2_reaches : GoodIn wsX2_canStrike (wsV RX2 115 RX2 yX2_reaches wsX2_reaches) := goodIn_app (goodIn_of _ (by decide +kernel)) ggX2_canStrike_X2_reaches
set_option maxRecDepth 20000 in
theorem ggX2_strike_X8_highAt : GoodIn wsX2_strike wsX8_highAt := goodIn_r _ [5, 6, 64, 65, 66, 67, 68] (by decide +kernel) (by decide +kernel)
set_option maxRecDepth 20000 in
theorem gX2_strike_X8_highAt : GoodIn wsX2_strike (wsV RX2 80 RX8 yX8_highAt wsX8_highAt) := goodIn_app (goodIn_of _ (by decide +kernel)) ggX2_strike_X8_highAt
set_option maxRecDepth 20000 in
theorem ggX2_strike_X2_takes : GoodIn wsX2_strike wsX2_takes := goodIn_r _ [11, 12, 13, 14, 10, 15, 16, 17, 18, 19, 69, 70, 71, 72, 73, 74, 75] (by decide +kernel) (by decide +kernel)
set_option maxRecDepth 20000 in
theorem gX2_strike_X2_takes : GoodIn wsX2_strike (wsV RX2 119 RX2 yX2_takes wsX2_takes) := goodIn_app (goodIn_of _ (by decide +kernel)) ggX2_strike_X2_takes
set_option maxRecDepth 20000 in
theorem ggX2_strike_X8_lower : GoodIn wsX2_strike wsX8_lower := goodIn_r _ [23, 24, 2, 3, 4, 5, 6, 25, 26, 27, 28, 29, 30, 31, 32, 33, 34, 35, 64, 65, 66, 67, 68] (by decide +kernel) (by decide +kernel)
set_option maxRecDepth 20000 in
theorem gX2_strike_X8_lower : GoodIn wsX2_strike (wsV RX2 122 RX8 yX8_lower wsX8_lower) := goodIn_app (goodIn_of _ (by decide +kernel)) ggX2_strike_X8_lower
set_option maxRecDepth 20000 in
theorem ggX2_strike_X2_after : GoodIn wsX2_strike wsX2_after := goodIn_r _ [39, 40, 41, 42, 10, 43, 44, 45, 69, 70, 71, 72, 73, 74, 75] (by decide +kernel) (by decide +kernel)
set_option maxRecDepth 20000 in
theorem gX2_strike_X2_after : GoodIn wsX2_strike (wsV RX2 90 RX2 yX2_after wsX2_after) := goodIn_app (goodIn_of _ (by decide +kernel)) ggX2_strike_X2_after
set_option maxRecDepth 20000 in
theorem ggX2_strike_X2_takesAfter : GoodIn wsX2_strike wsX2_takesAfter := goodIn_r _ [49, 12, 13, 14, 10, 15, 16, 69, 70, 71, 72, 73, 74, 75] (by decide +kernel) (by decide +kernel)
set_option maxRecDepth 20000 in
theorem gX2_strike_X2_takesAfter : GoodIn wsX2_strike (wsV RX2 125 RX2 yX2_takesAfter wsX2_takesAfter) := goodIn_app (goodIn_of _ (by decide +kernel)) ggX2_strike_X2_takesAfter
set_option maxRecDepth 20000 in
theorem ggX2_strike_X8_leftTo : GoodIn wsX2_strike wsX8_leftTo := goodIn_r _ [53, 54, 64, 65, 66, 67, 68] (by decide +kernel) (by decide +kernel)
set_option maxRecDepth 20000 in
theorem gX2_strike_X8_leftTo : GoodIn wsX2_strike (wsV RX2 109 RX8 yX8_leftTo wsX8_leftTo) := goodIn_app (goodIn_of _ (by decide +kernel)) ggX2_strike_X8_leftTo
set_option maxRecDepth 20000 in
theorem ggX2_strike_X8_setLeft : GoodIn wsX2_strike wsX8_setLeft := goodIn_r _ [58, 54, 64, 65, 66, 67, 68] (by decide +kernel) (by decide +kernel)
set_option maxRecDepth 20000 in
theorem gX2_strike_X8_setLeft : GoodIn wsX2_strike (wsV RX2 106 RX8 yX8_setLeft wsX8_setLeft) := goodIn_app (goodIn_of _ (by decide +kernel)) ggX2_strike_X8_setLeft
set_option maxRecDepth 20000 in
theorem ggX2_strike_X8_setPlace : GoodIn wsX2_strike wsX8_setPlace := goodIn_r _ [62, 63, 64, 65, 66, 67, 68] (by decide +kernel) (by decide +kernel)
set_option maxRecDepth 20000 in
theorem gX2_strike_X8_setPlace : GoodIn wsX2_strike (wsV RX2 63 RX8 yX8_setPlace wsX8_setPlace) := goodIn_app (goodIn_of _ (by decide +kernel)) ggX2_strike_X8_setPlace
set_option maxRecDepth 20000 in
theorem ggX3_read_X2_clear : GoodIn wsX3_read wsX2_clear := goodIn_r _ [6, 7, 8, 9, 10, 11, 12, 13, 14, 15, 76, 77, 78, 79, 80, 81, 82] (by decide +kernel) (by decide +kernel)
set_option maxRecDepth 20000 in
theorem gX3_read_X2_clear : GoodIn wsX3_read (wsV RX3 22 RX2 yX2_clear wsX2_clear) := goodIn_app (goodIn_of _ (by decide +kernel)) ggX3_read_X2_clear
set_option maxRecDepth 20000 in
theorem ggX3_read_X0_size : GoodIn wsX3_read wsX0_size := goodIn_r _ [20, 21, 83, 84] (by decide +kernel) (by decide +kernel)
set_option maxRecDepth 20000 in
theorem gX3_read_X0_size : GoodIn wsX3_read (wsV RX3 27 RX0 yX0_size wsX0_size) := goodIn_app (goodIn_of _ (by decide +kernel)) ggX3_read_X0_size
set_option maxRecDepth 20000 in
theorem ggX3_read_X3_readItem : GoodIn wsX3_read wsX3_readItem := goodIn_r _ [26, 1, 27, 28, 29, 30, 19, 31, 21, 32, 33, 34, 35, 25, 36, 37, 38, 39, 40, 41, 42, 43, 44, 45, 46, 47, 48, 49, 5, 50, 9, 8, 7, 51, 52, 53, 54, 55, 56, 57, 58, 59, 60, 61, 62, 10, 63, 64, 65, 66, 67, 68, 69, 70, 71, 11, 72, 73, 74, 75, 83, 84, 76, 77, 78, 79, 80, 81, 82] (by decide +kernel) (by decide +kernel)
set_option maxRecDepth 20000 in
theorem gX3_read_X3_readItem : GoodIn wsX3_read (wsV RX3 33 RX3 yX3_readItem wsX3_readItem) := goodIn_app (goodIn_of _ (by decide +kernel)) ggX3_read_X3_readItem
set_option maxRecDepth 20000 in
theorem ggX3_readItem_X0_at : GoodIn wsX3_readItem wsX0_at := goodIn_r _ [7, 8, 9, 60, 61] (by decide +kernel) (by decide +kernel)
set_option maxRecDepth 20000 in
theorem gX3_readItem_X0_at : GoodIn wsX3_readItem (wsV RX3 37 RX0 yX0_at wsX0_at) := goodIn_app (goodIn_of _ (by decide +kernel)) ggX3_readItem_X0_at
set_option maxRecDepth 20000 in
theorem ggX3_readItem_X3_readRow : GoodIn wsX3_readItem wsX3_readRow := goodIn_r _ [14, 15, 1, 16, 17, 18, 6, 19, 20, 4, 5, 7, 8, 9, 21, 22, 23, 13, 24, 3, 25, 26, 27, 28, 29, 30, 31, 32, 33, 34, 35, 36, 57, 58, 59, 60, 61, 62, 63, 64, 65, 66, 67, 68] (by decide +kernel) (by decide +kernel)
set_option maxRecDepth 20000 in
theorem gX3_readItem_X3_readRow : GoodIn wsX3_readItem (wsV RX3 41 RX3 yX3_readRow wsX3_readRow) := goodIn_app (goodIn_of _ (by decide +kernel)) ggX3_readItem_X3_readRow
set_option maxRecDepth 20000 in
theorem ggX3_readItem_X3_readNumbers : GoodIn wsX3_readItem wsX3_readNumbers := goodIn_r _ [40, 2, 1, 16, 17, 18, 6, 19, 20, 4, 5, 7, 8, 9, 21, 22, 23, 13, 24, 3, 57, 58, 59, 60, 61] (by decide +kernel) (by decide +kernel)
set_option maxRecDepth 20000 in
theorem gX3_readItem_X3_readNumbers : GoodIn wsX3_readItem (wsV RX3 44 RX3 yX3_readNumbers wsX3_readNumbers) := goodIn_app (goodIn_of _ (by decide +kernel)) ggX3_readItem_X3_readNumbers
set_option maxRecDepth 20000 in
theorem ggX3_readItem_X2_addCase : GoodIn wsX3_readItem wsX2_addCase := goodIn_r _ [44, 45, 46, 47, 48, 49, 50, 33, 34, 35, 28, 36, 30, 31, 62, 63, 64, 65, 66, 67, 68] (by decide +kernel) (by decide +kernel)
set_option maxRecDepth 20000 in
theorem gX3_readItem_X2_addCase : GoodIn wsX3_readItem (wsV RX3 48 RX2 yX2_addCase wsX2_addCase) := goodIn_app (goodIn_of _ (by decide +kernel)) ggX3_readItem_X2_addCase
set_option maxRecDepth 20000 in
theorem ggX3_readItem_X2_addMaid : GoodIn wsX3_readItem wsX2_addMaid := goodIn_r _ [54, 55, 56, 47, 48, 49, 50, 33, 34, 35, 28, 36, 30, 31, 62, 63, 64, 65, 66, 67, 68] (by decide +kernel) (by decide +kernel)
set_option maxRecDepth 20000 in
theorem gX3_readItem_X2_addMaid : GoodIn wsX3_readItem (wsV RX3 52 RX2 yX2_addMaid wsX2_addMaid) := goodIn_app (goodIn_of _ (by decide +kernel)) ggX3_readItem_X2_addMaid
set_option maxRecDepth 20000 in
theorem ggX3_readRow_X0_figureAt : GoodIn wsX3_readRow wsX0_figureAt := goodIn_r _ [7, 8, 9, 10, 6, 11, 12, 13, 35, 36] (by decide +kernel) (by decide +kernel)
set_option maxRecDepth 20000 in
theorem gX3_readRow_X0_figureAt : GoodIn wsX3_readRow (wsV RX3 55 RX0 yX0_figureAt wsX0_figureAt) := goodIn_app (goodIn_of _ (by decide +kernel)) ggX3_readRow_X0_figureAt
set_option maxRecDepth 20000 in
theorem ggX3_readRow_X3_skip : GoodIn wsX3_readRow wsX3_skip := goodIn_r _ [18, 2, 19, 9, 10, 6, 11, 12, 13, 32, 33, 34, 35, 36] (by decide +kernel) (by decide +kernel)
set_option maxRecDepth 20000 in
theorem gX3_readRow_X3_skip : GoodIn wsX3_readRow (wsV RX3 59 RX3 yX3_skip wsX3_skip) := goodIn_app (goodIn_of _ (by decide +kernel)) ggX3_readRow_X3_skip
set_option maxRecDepth 20000 in
theorem ggX3_readRow_X2_addRow : GoodIn wsX3_readRow wsX2_addRow := goodIn_r _ [24, 25, 26, 27, 28, 29, 30, 23, 31, 37, 38, 39, 40, 41, 42, 43] (by decide +kernel) (by decide +kernel)
set_option maxRecDepth 20000 in
theorem gX3_readRow_X2_addRow : GoodIn wsX3_readRow (wsV RX3 63 RX2 yX2_addRow wsX2_addRow) := goodIn_app (goodIn_of _ (by decide +kernel)) ggX3_readRow_X2_addRow
set_option maxRecDepth 20000 in
theorem ggX3_readNumbers_X0_figureAt : GoodIn wsX3_readNumbers wsX0_figureAt := goodIn_r _ [7, 8, 9, 10, 6, 11, 12, 13, 23, 24] (by decide +kernel) (by decide +kernel)
set_option maxRecDepth 20000 in
theorem gX3_readNumbers_X0_figureAt : GoodIn wsX3_readNumbers (wsV RX3 55 RX0 yX0_figureAt wsX0_figureAt) := goodIn_app (goodIn_of _ (by decide +kernel)) ggX3_readNumbers_X0_figureAt
set_option maxRecDepth 20000 in
theorem ggX3_readNumbers_X3_skip : GoodIn wsX3_readNumbers wsX3_skip := goodIn_r _ [18, 2, 19, 9, 10, 6, 11, 12, 13, 20, 21, 22, 23, 24] (by decide +kernel) (by decide +kernel)
set_option maxRecDepth 20000 in
theorem gX3_readNumbers_X3_skip : GoodIn wsX3_readNumbers (wsV RX3 59 RX3 yX3_skip wsX3_skip) := goodIn_app (goodIn_of _ (by decide +kernel)) ggX3_readNumbers_X3_skip
set_option maxRecDepth 20000 in
theorem ggX3_skip_X0_at : GoodIn wsX3_skip wsX0_at := goodIn_r _ [6, 7, 8, 12, 13] (by decide +kernel) (by decide +kernel)
set_option maxRecDepth 20000 in
theorem gX3_skip_X0_at : GoodIn wsX3_skip (wsV RX3 37 RX0 yX0_at wsX0_at) := goodIn_app (goodIn_of _ (by decide +kernel)) ggX3_skip_X0_at
set_option maxRecDepth 20000 in
theorem ggX4_least_X4_tryFrom : GoodIn wsX4_least wsX4_tryFrom := goodIn_r _ [5, 6, 7, 8, 9, 10, 11, 12, 13, 14, 15, 4, 16, 1, 17, 18, 19, 20, 21, 22, 23, 24, 25, 26, 27, 28, 29, 30, 31, 32, 33, 34, 35, 36, 37, 38, 39, 40, 41, 42, 43, 44, 45, 46, 47, 48, 49, 50, 51, 52, 53, 54, 55, 56, 57, 58, 59, 60, 61, 62, 63, 64, 65, 66, 67, 68, 69, 70, 71, 72, 73, 74, 75, 76, 77, 78, 79, 80, 81, 82, 83, 84, 85, 86, 87, 88, 89, 90, 91, 92, 93, 94, 2, 3, 95, 96, 97, 98, 99, 100, 101, 102, 103, 104, 105, 106, 107, 108, 109, 110, 111, 112] (by decide +kernel) (by decide +kernel)
set_option maxRecDepth 20000 in
theorem gX4_least_X4_tryFrom : GoodIn wsX4_least (va_wsS RX4 22 yX4_tryFrom wsX4_tryFrom) := goodIn_app (goodIn_of _ (by decide +kernel)) ggX4_least_X4_tryFrom
set_option maxRecDepth 20000 in
theorem ggX4_tryFrom_X8_sum : GoodIn wsX4_tryFrom wsX8_sum := goodIn_r _ [6, 7, 100, 101, 102, 103, 104] (by decide +kernel) (by decide +kernel)
set_option maxRecDepth 20000 in
theorem gX4_tryFrom_X8_sum : GoodIn wsX4_tryFrom (wsV RX4 26 RX8 yX8_sum wsX8_sum) := goodIn_app (goodIn_of _ (by decide +kernel)) ggX4_tryFrom_X8_sum
set_option maxRecDepth 20000 in
theorem ggX4_tryFrom_X4_noteIfBetter : GoodIn wsX4_tryFrom wsX4_noteIfBetter := goodIn_r _ [12, 13, 1, 14, 15, 16, 17, 18, 97, 98, 99] (by decide +kernel) (by decide +kernel)
set_option maxRecDepth 20000 in
theorem gX4_tryFrom_X4_noteIfBetter : GoodIn wsX4_tryFrom (wsV RX4 32 RX4 yX4_noteIfBetter wsX4_noteIfBetter) := goodIn_app (goodIn_of _ (by decide +kernel)) ggX4_tryFrom_X4_noteIfBetter
set_option maxRecDepth 20000 in
theorem ggX4_tryFrom_X8_placeOf : GoodIn wsX4_tryFrom wsX8_placeOf := goodIn_r _ [22, 23, 100, 101, 102, 103, 104] (by decide +kernel) (by decide +kernel)
set_option maxRecDepth 20000 in
theorem gX4_tryFrom_X8_placeOf : GoodIn wsX4_tryFrom (wsV RX4 36 RX8 yX8_placeOf wsX8_placeOf) := goodIn_app (goodIn_of _ (by decide +kernel)) ggX4_tryFrom_X8_placeOf
set_option maxRecDepth 20000 in
theorem ggX4_tryFrom_X8_leftTo : GoodIn wsX4_tryFrom wsX8_leftTo := goodIn_r _ [27, 28, 100, 101, 102, 103, 104] (by decide +kernel) (by decide +kernel)
set_option maxRecDepth 20000 in
theorem gX4_tryFrom_X8_leftTo : GoodIn wsX4_tryFrom (wsV RX4 40 RX8 yX8_leftTo wsX8_leftTo) := goodIn_app (goodIn_of _ (by decide +kernel)) ggX4_tryFrom_X8_leftTo
set_option maxRecDepth 20000 in
theorem ggX4_tryFrom_X2_wayFrom : GoodIn wsX4_tryFrom wsX2_wayFrom := goodIn_r _ [33, 34, 35, 105, 106, 107, 108, 109, 110, 111] (by decide +kernel) (by decide +kernel)
set_option maxRecDepth 20000 in
theorem gX4_tryFrom_X2_wayFrom : GoodIn wsX4_tryFrom (wsV RX4 43 RX2 yX2_wayFrom wsX2_wayFrom) := goodIn_app (goodIn_of _ (by decide +kernel)) ggX4_tryFrom_X2_wayFrom
set_option maxRecDepth 20000 in
theorem ggX4_tryFrom_X2_after : GoodIn wsX4_tryFrom wsX2_after := goodIn_r _ [39, 40, 30, 31, 32, 33, 34, 35, 105, 106, 107, 108, 109, 110, 111] (by decide +kernel) (by decide +kernel)
set_option maxRecDepth 20000 in
theorem gX4_tryFrom_X2_after : GoodIn wsX4_tryFrom (wsV RX4 49 RX2 yX2_after wsX2_after) := goodIn_app (goodIn_of _ (by decide +kernel)) ggX4_tryFrom_X2_after
set_option maxRecDepth 20000 in
theorem ggX4_tryFrom_X8_highAt : GoodIn wsX4_tryFrom wsX8_highAt := goodIn_r _ [44, 7, 100, 101, 102, 103, 104] (by decide +kernel) (by decide +kernel)
set_option maxRecDepth 20000 in
theorem gX4_tryFrom_X8_highAt : GoodIn wsX4_tryFrom (wsV RX4 52 RX8 yX8_highAt wsX8_highAt) := goodIn_app (goodIn_of _ (by decide +kernel)) ggX4_tryFrom_X8_highAt
set_option maxRecDepth 20000 in
theorem ggX4_tryFrom_X2_strike : GoodIn wsX4_tryFrom wsX2_strike := goodIn_r _ [48, 49, 42, 43, 5, 44, 7, 50, 51, 52, 32, 53, 54, 55, 56, 57, 58, 59, 60, 61, 62, 63, 64, 65, 66, 67, 68, 69, 70, 71, 72, 73, 74, 75, 76, 77, 78, 37, 38, 39, 40, 30, 31, 33, 34, 35, 79, 80, 81, 82, 83, 25, 26, 27, 28, 84, 85, 86, 87, 88, 89, 90, 91, 23, 100, 101, 102, 103, 104, 105, 106, 107, 108, 109, 110, 111] (by decide +kernel) (by decide +kernel)
set_option maxRecDepth 20000 in
theorem gX4_tryFrom_X2_strike : GoodIn wsX4_tryFrom (wsV RX4 55 RX2 yX2_strike wsX2_strike) := goodIn_app (goodIn_of _ (by decide +kernel)) ggX4_tryFrom_X2_strike
set_option maxRecDepth 20000 in
theorem ggX4_tryFrom_X4_tryFrom : GoodIn wsX4_tryFrom wsX4_tryFrom := goodIn_r _ [0, 1, 2, 3, 4, 5, 6, 7, 8, 9, 10, 11, 12, 13, 14, 15, 16, 17, 18, 19, 20, 21, 22, 23, 24, 25, 26, 27, 28, 29, 30, 31, 32, 33, 34, 35, 36, 37, 38, 39, 40, 41, 42, 43, 44, 45, 46, 47, 48, 49, 50, 51, 52, 53, 54, 55, 56, 57, 58, 59, 60, 61, 62, 63, 64, 65, 66, 67, 68, 69, 70, 71, 72, 73, 74, 75, 76, 77, 78, 79, 80, 81, 82, 83, 84, 85, 86, 87, 88, 89, 90, 91, 92, 93, 94, 95, 96, 97, 98, 99, 100, 101, 102, 103, 104, 105, 106, 107, 108, 109, 110, 111] (by decide +kernel) (by decide +kernel)
set_option maxRecDepth 20000 in
theorem gX4_tryFrom_X4_tryFrom : GoodIn wsX4_tryFrom (va_wsS RX4 22 yX4_tryFrom wsX4_tryFrom) := goodIn_app (goodIn_of _ (by decide +kernel)) ggX4_tryFrom_X4_tryFrom
set_option maxRecDepth 20000 in
theorem ggX4_tryFrom_X8_setHigh : GoodIn wsX4_tryFrom wsX8_setHigh := goodIn_r _ [70, 7, 71, 72, 73, 74, 75, 76, 77, 100, 101, 102, 103, 104] (by decide +kernel) (by decide +kernel)
set_option maxRecDepth 20000 in
theorem gX4_tryFrom_X8_setHigh : GoodIn wsX4_tryFrom (wsV RX4 59 RX8 yX8_setHigh wsX8_setHigh) := goodIn_app (goodIn_of _ (by decide +kernel)) ggX4_tryFrom_X8_setHigh
set_option maxRecDepth 20000 in
theorem ggX4_tryFrom_X8_setPlace : GoodIn wsX4_tryFrom wsX8_setPlace := goodIn_r _ [91, 23, 100, 101, 102, 103, 104] (by decide +kernel) (by decide +kernel)
set_option maxRecDepth 20000 in
theorem gX4_tryFrom_X8_setPlace : GoodIn wsX4_tryFrom (wsV RX4 63 RX8 yX8_setPlace wsX8_setPlace) := goodIn_app (goodIn_of _ (by decide +kernel)) ggX4_tryFrom_X8_setPlace
set_option maxRecDepth 20000 in
theorem ggX4_tryFrom_X8_setLeft : GoodIn wsX4_tryFrom wsX8_setLeft := goodIn_r _ [87, 28, 100, 101, 102, 103, 104] (by decide +kernel) (by decide +kernel)
set_option maxRecDepth 20000 in
theorem gX4_tryFrom_X8_setLeft : GoodIn wsX4_tryFrom (wsV RX4 66 RX8 yX8_setLeft wsX8_setLeft) := goodIn_app (goodIn_of _ (by decide +kernel)) ggX4_tryFrom_X8_setLeft
set_option maxRecDepth 20000 in
theorem ggX5_most_J7_fill_53178 : GoodIn wsX5_most wsJ7_fill_53178 := goodIn_r _ [14] (by decide +kernel) (by decide +kernel)
set_option maxRecDepth 20000 in
theorem gX5_most_J7_fill_53178 : GoodIn wsX5_most (va_wsS RX5 18 yJ7_fill_53178 wsJ7_fill_53178) := goodIn_app (goodIn_of _ (by decide +kernel)) ggX5_most_J7_fill_53178
set_option maxRecDepth 20000 in
theorem ggX5_most_X2_cellsInRow : GoodIn wsX5_most wsX2_cellsInRow := goodIn_r _ [19, 20, 49, 50, 51, 52, 53, 54, 55] (by decide +kernel) (by decide +kernel)
set_option maxRecDepth 20000 in
theorem gX5_most_X2_cellsInRow : GoodIn wsX5_most (wsV RX5 24 RX2 yX2_cellsInRow wsX2_cellsInRow) := goodIn_app (goodIn_of _ (by decide +kernel)) ggX5_most_X2_cellsInRow
set_option maxRecDepth 20000 in
theorem ggX5_most_X5_freeCells : GoodIn wsX5_most wsX5_freeCells := goodIn_r _ [24, 25, 26, 27, 18, 28, 29, 15, 16, 17, 19, 20, 30, 31, 32, 33, 34, 35, 49, 50, 51, 52, 53, 54, 55, 56, 57, 58, 59, 60] (by decide +kernel) (by decide +kernel)
set_option maxRecDepth 20000 in
theorem gX5_most_X5_freeCells : GoodIn wsX5_most (va_wsS RX5 30 yX5_freeCells wsX5_freeCells) := goodIn_app (goodIn_of _ (by decide +kernel)) ggX5_most_X5_freeCells
set_option maxRecDepth 20000 in
theorem ggX5_most_X5_mostWith : GoodIn wsX5_most wsX5_mostWith := goodIn_r _ [39, 1, 7, 8, 9, 10, 40, 41, 42, 43, 44, 45, 46, 47, 48] (by decide +kernel) (by decide +kernel)
set_option maxRecDepth 20000 in
theorem gX5_most_X5_mostWith : GoodIn wsX5_most (wsV RX5 34 RX5 yX5_mostWith wsX5_mostWith) := goodIn_app (goodIn_of _ (by decide +kernel)) ggX5_most_X5_mostWith
set_option maxRecDepth 20000 in
theorem ggX5_freeCells_X2_rowCount : GoodIn wsX5_freeCells wsX2_rowCount := goodIn_r _ [5, 6, 18, 19, 20, 21, 22, 23, 24] (by decide +kernel) (by decide +kernel)
set_option maxRecDepth 20000 in
theorem gX5_freeCells_X2_rowCount : GoodIn wsX5_freeCells (wsV RX5 50 RX2 yX2_rowCount wsX2_rowCount) := goodIn_app (goodIn_of _ (by decide +kernel)) ggX5_freeCells_X2_rowCount
set_option maxRecDepth 20000 in
theorem ggX5_freeCells_X2_cellsInRow : GoodIn wsX5_freeCells wsX2_cellsInRow := goodIn_r _ [10, 11, 18, 19, 20, 21, 22, 23, 24] (by decide +kernel) (by decide +kernel)
set_option maxRecDepth 20000 in
theorem gX5_freeCells_X2_cellsInRow : GoodIn wsX5_freeCells (wsV RX5 24 RX2 yX2_cellsInRow wsX2_cellsInRow) := goodIn_app (goodIn_of _ (by decide +kernel)) ggX5_freeCells_X2_cellsInRow
set_option maxRecDepth 20000 in
theorem ggX5_freeCells_X8_highAt : GoodIn wsX5_freeCells wsX8_highAt := goodIn_r _ [16, 17, 25, 26, 27, 28, 29] (by decide +kernel) (by decide +kernel)
set_option maxRecDepth 20000 in
theorem gX5_freeCells_X8_highAt : GoodIn wsX5_freeCells (wsV RX5 53 RX8 yX8_highAt wsX8_highAt) := goodIn_app (goodIn_of _ (by decide +kernel)) ggX5_freeCells_X8_highAt
set_option maxRecDepth 20000 in
theorem ggX5_mostWith_J6_bitCount_0f7a4 : GoodIn wsX5_mostWith wsJ6_bitCount_0f7a4 := goodIn_r _ [9, 10, 11, 12] (by decide +kernel) (by decide +kernel)
set_option maxRecDepth 20000 in
theorem gX5_mostWith_J6_bitCount_0f7a4 : GoodIn wsX5_mostWith (va_wsS RX5 58 yJ6_bitCount_0f7a4 wsJ6_bitCount_0f7a4) := goodIn_app (goodIn_of _ (by decide +kernel)) ggX5_mostWith_J6_bitCount_0f7a4
set_option maxRecDepth 20000 in
theorem ggX6_agreeWith_X8_highAt : GoodIn wsX6_agreeWith wsX8_highAt := goodIn_r _ [8, 9, 13, 14, 15, 16, 17] (by decide +kernel) (by decide +kernel)
set_option maxRecDepth 20000 in
theorem gX6_agreeWith_X8_highAt : GoodIn wsX6_agreeWith (wsV RX6 22 RX8 yX8_highAt wsX8_highAt) := goodIn_app (goodIn_of _ (by decide +kernel)) ggX6_agreeWith_X8_highAt
set_option maxRecDepth 20000 in
theorem ggX7_fewest_X8_placeOf : GoodIn wsX7_fewest wsX8_placeOf := goodIn_r _ [5, 6, 79, 80, 81, 82, 83] (by decide +kernel) (by decide +kernel)
set_option maxRecDepth 20000 in
theorem gX7_fewest_X8_placeOf : GoodIn wsX7_fewest (wsV RX7 18 RX8 yX8_placeOf wsX8_placeOf) := goodIn_app (goodIn_of _ (by decide +kernel)) ggX7_fewest_X8_placeOf
set_option maxRecDepth 20000 in
theorem ggX7_fewest_X8_highAt : GoodIn wsX7_fewest wsX8_highAt := goodIn_r _ [10, 11, 79, 80, 81, 82, 83] (by decide +kernel) (by decide +kernel)
set_option maxRecDepth 20000 in
theorem gX7_fewest_X8_highAt : GoodIn wsX7_fewest (wsV RX7 24 RX8 yX8_highAt wsX8_highAt) := goodIn_app (goodIn_of _ (by decide +kernel)) ggX7_fewest_X8_highAt
set_option maxRecDepth 20000 in
theorem ggX7_fewest_X7_markSmooth : GoodIn wsX7_fewest wsX7_markSmooth := goodIn_r _ [16, 17, 84, 85] (by decide +kernel) (by decide +kernel)
set_option maxRecDepth 20000 in
theorem gX7_fewest_X7_markSmooth : GoodIn wsX7_fewest (wsV RX7 27 RX7 yX7_markSmooth wsX7_markSmooth) := goodIn_app (goodIn_of _ (by decide +kernel)) ggX7_fewest_X7_markSmooth
set_option maxRecDepth 20000 in
theorem ggX7_fewest_X8_leftTo : GoodIn wsX7_fewest wsX8_leftTo := goodIn_r _ [21, 22, 79, 80, 81, 82, 83] (by decide +kernel) (by decide +kernel)
set_option maxRecDepth 20000 in
theorem gX7_fewest_X8_leftTo : GoodIn wsX7_fewest (wsV RX7 30 RX8 yX8_leftTo wsX8_leftTo) := goodIn_app (goodIn_of _ (by decide +kernel)) ggX7_fewest_X8_leftTo
set_option maxRecDepth 20000 in
theorem ggX7_fewest_X7_fewestFrom : GoodIn wsX7_fewest wsX7_fewestFrom := goodIn_r _ [26, 17, 84, 85] (by decide +kernel) (by decide +kernel)
set_option maxRecDepth 20000 in
theorem gX7_fewest_X7_fewestFrom : GoodIn wsX7_fewest (wsV RX7 33 RX7 yX7_fewestFrom wsX7_fewestFrom) := goodIn_app (goodIn_of _ (by decide +kernel)) ggX7_fewest_X7_fewestFrom
set_option maxRecDepth 20000 in
theorem ggX7_fewest_X7_findStrokes : GoodIn wsX7_fewest wsX7_findStrokes := goodIn_r _ [30, 17, 31, 32, 33, 34, 35, 36, 37, 38, 39, 40, 15, 41, 42, 43, 44, 45, 46, 47, 48, 49, 50, 51, 52, 53, 54, 55, 56, 57, 58, 59, 60, 61, 62, 63, 64, 65, 66, 67, 68, 69, 70, 71, 72, 73, 23, 24, 25, 26, 84, 85, 86, 87, 88, 89, 90, 91, 92] (by decide +kernel) (by decide +kernel)
set_option maxRecDepth 20000 in
theorem gX7_fewest_X7_findStrokes : GoodIn wsX7_fewest (wsV RX7 37 RX7 yX7_findStrokes wsX7_findStrokes) := goodIn_app (goodIn_of _ (by decide +kernel)) ggX7_fewest_X7_findStrokes
set_option maxRecDepth 20000 in
theorem ggX7_fewest_X7_tellRow : GoodIn wsX7_fewest wsX7_tellRow := goodIn_r _ [77, 78, 23, 24, 25, 15, 26, 17, 38, 39, 40, 41, 42, 43, 44, 34, 45, 36, 37, 46, 47, 48, 49, 50, 51, 52, 53, 54, 55, 56, 57, 58, 59, 60, 61, 62, 63, 64, 65, 66, 67, 68, 69, 70, 71, 72, 73, 84, 85, 86, 87, 88, 89, 90, 91, 92] (by decide +kernel) (by decide +kernel)
set_option maxRecDepth 20000 in
theorem gX7_fewest_X7_tellRow : GoodIn wsX7_fewest (wsV RX7 41 RX7 yX7_tellRow wsX7_tellRow) := goodIn_app (goodIn_of _ (by decide +kernel)) ggX7_fewest_X7_tellRow
set_option maxRecDepth 20000 in
theorem ggX7_findStrokes_X2_cellCount : GoodIn wsX7_findStrokes wsX2_cellCount := goodIn_r _ [6, 7, 8, 52, 53, 54, 55, 56, 57, 58] (by decide +kernel) (by decide +kernel)
set_option maxRecDepth 20000 in
theorem gX7_findStrokes_X2_cellCount : GoodIn wsX7_findStrokes (wsV RX7 44 RX2 yX2_cellCount wsX2_cellCount) := goodIn_app (goodIn_of _ (by decide +kernel)) ggX7_findStrokes_X2_cellCount
set_option maxRecDepth 20000 in
theorem ggX7_findStrokes_X7_firstStroke : GoodIn wsX7_findStrokes wsX7_firstStroke := goodIn_r _ [13, 14, 15, 16, 5, 17, 7, 8, 18, 19, 12, 20, 21, 22, 23, 24, 25, 26, 27, 28, 29, 30, 31, 32, 33, 34, 35, 36, 37, 38, 39, 40, 41, 42, 43, 44, 45, 46, 47, 48, 49, 1, 52, 53, 54, 55, 56, 57, 58, 50, 51] (by decide +kernel) (by decide +kernel)
set_option maxRecDepth 20000 in
theorem gX7_findStrokes_X7_firstStroke : GoodIn wsX7_findStrokes (wsV RX7 50 RX7 yX7_firstStroke wsX7_firstStroke) := goodIn_app (goodIn_of _ (by decide +kernel)) ggX7_findStrokes_X7_firstStroke
set_option maxRecDepth 20000 in
theorem ggX7_firstStroke_X2_wayFrom : GoodIn wsX7_firstStroke wsX2_wayFrom := goodIn_r _ [5, 6, 7, 42, 43, 44, 45, 46, 47, 48] (by decide +kernel) (by decide +kernel)
set_option maxRecDepth 20000 in
theorem gX7_firstStroke_X2_wayFrom : GoodIn wsX7_firstStroke (wsV RX7 54 RX2 yX2_wayFrom wsX2_wayFrom) := goodIn_app (goodIn_of _ (by decide +kernel)) ggX7_firstStroke_X2_wayFrom
set_option maxRecDepth 20000 in
theorem ggX7_firstStroke_X7_lowered : GoodIn wsX7_firstStroke wsX7_lowered := goodIn_r _ [11, 12, 13, 14, 15, 16, 17, 18, 4, 19, 20, 21, 22, 23, 24, 25, 26, 27, 28, 29, 30, 31, 32, 2, 3, 5, 6, 7, 33, 34, 35, 36, 42, 43, 44, 45, 46, 47, 48] (by decide +kernel) (by decide +kernel)
set_option maxRecDepth 20000 in
theorem gX7_firstStroke_X7_lowered : GoodIn wsX7_firstStroke (va_wsS RX7 57 yX7_lowered wsX7_lowered) := goodIn_app (goodIn_of _ (by decide +kernel)) ggX7_firstStroke_X7_lowered
set_option maxRecDepth 20000 in
theorem ggX7_firstStroke_X7_fewestFrom : GoodIn wsX7_firstStroke wsX7_fewestFrom := goodIn_r _ [40, 41, 49, 50] (by decide +kernel) (by decide +kernel)
set_option maxRecDepth 20000 in
theorem gX7_firstStroke_X7_fewestFrom : GoodIn wsX7_firstStroke (wsV RX7 33 RX7 yX7_fewestFrom wsX7_fewestFrom) := goodIn_app (goodIn_of _ (by decide +kernel)) ggX7_firstStroke_X7_fewestFrom
set_option maxRecDepth 20000 in
theorem ggX7_lowered_X2_takes : GoodIn wsX7_lowered wsX2_takes := goodIn_r _ [9, 10, 11, 12, 8, 13, 14, 15, 16, 17, 32, 33, 34, 35, 36, 37, 38] (by decide +kernel) (by decide +kernel)
set_option maxRecDepth 20000 in
theorem gX7_lowered_X2_takes : GoodIn wsX7_lowered (wsV RX7 61 RX2 yX2_takes wsX2_takes) := goodIn_app (goodIn_of _ (by decide +kernel)) ggX7_lowered_X2_takes
set_option maxRecDepth 20000 in
theorem ggX7_lowered_X2_after : GoodIn wsX7_lowered wsX2_after := goodIn_r _ [21, 22, 23, 24, 8, 25, 26, 27, 32, 33, 34, 35, 36, 37, 38] (by decide +kernel) (by decide +kernel)
set_option maxRecDepth 20000 in
theorem gX7_lowered_X2_after : GoodIn wsX7_lowered (wsV RX7 69 RX2 yX2_after wsX2_after) := goodIn_app (goodIn_of _ (by decide +kernel)) ggX7_lowered_X2_after
set_option maxRecDepth 20000 in
theorem ggX7_lowered_X2_takesAfter : GoodIn wsX7_lowered wsX2_takesAfter := goodIn_r _ [31, 10, 11, 12, 8, 13, 14, 32, 33, 34, 35, 36, 37, 38] (by decide +kernel) (by decide +kernel)
set_option maxRecDepth 20000 in
theorem gX7_lowered_X2_takesAfter : GoodIn wsX7_lowered (wsV RX7 72 RX2 yX2_takesAfter wsX2_takesAfter) := goodIn_app (goodIn_of _ (by decide +kernel)) ggX7_lowered_X2_takesAfter
set_option maxRecDepth 20000 in
theorem ggX7_tellRow_X7_fewestFrom : GoodIn wsX7_tellRow wsX7_fewestFrom := goodIn_r _ [6, 7, 47, 48] (by decide +kernel) (by decide +kernel)
set_option maxRecDepth 20000 in
theorem gX7_tellRow_X7_fewestFrom : GoodIn wsX7_tellRow (wsV RX7 33 RX7 yX7_fewestFrom wsX7_fewestFrom) := goodIn_app (goodIn_of _ (by decide +kernel)) ggX7_tellRow_X7_fewestFrom
set_option maxRecDepth 20000 in
theorem ggX7_tellRow_X7_firstStroke : GoodIn wsX7_tellRow wsX7_firstStroke := goodIn_r _ [11, 12, 13, 14, 15, 16, 17, 18, 19, 20, 5, 21, 22, 23, 24, 25, 26, 27, 28, 29, 30, 31, 32, 33, 34, 35, 36, 37, 38, 39, 40, 41, 42, 43, 44, 45, 46, 2, 3, 4, 6, 7, 49, 50, 51, 52, 53, 54, 55, 47, 48] (by decide +kernel) (by decide +kernel)
set_option maxRecDepth 20000 in
theorem gX7_tellRow_X7_firstStroke : GoodIn wsX7_tellRow (wsV RX7 50 RX7 yX7_firstStroke wsX7_firstStroke) := goodIn_app (goodIn_of _ (by decide +kernel)) ggX7_tellRow_X7_firstStroke
set_option maxRecDepth 20000 in
theorem ggX7_tellRow_X7_lowered : GoodIn wsX7_tellRow wsX7_lowered := goodIn_r _ [21, 22, 23, 24, 25, 26, 27, 28, 15, 29, 30, 31, 32, 33, 34, 35, 36, 37, 38, 39, 40, 41, 42, 13, 14, 16, 17, 18, 43, 44, 45, 46, 49, 50, 51, 52, 53, 54, 55] (by decide +kernel) (by decide +kernel)
set_option maxRecDepth 20000 in
theorem gX7_tellRow_X7_lowered : GoodIn wsX7_tellRow (va_wsS RX7 57 yX7_lowered wsX7_lowered) := goodIn_app (goodIn_of _ (by decide +kernel)) ggX7_tellRow_X7_lowered
set_option maxRecDepth 20000 in
theorem ggX8_clear_J7_fill_53178 : GoodIn wsX8_clear wsJ7_fill_53178 := goodIn_r _ [9] (by decide +kernel) (by decide +kernel)
set_option maxRecDepth 20000 in
theorem gX8_clear_J7_fill_53178 : GoodIn wsX8_clear (va_wsS RX8 28 yJ7_fill_53178 wsJ7_fill_53178) := goodIn_app (goodIn_of _ (by decide +kernel)) ggX8_clear_J7_fill_53178
set_option maxRecDepth 20000 in
theorem ggX8_raise_X8_highAt : GoodIn wsX8_raise wsX8_highAt := goodIn_r _ [5, 6, 18, 19, 20, 21, 22] (by decide +kernel) (by decide +kernel)
set_option maxRecDepth 20000 in
theorem gX8_raise_X8_highAt : GoodIn wsX8_raise (wsV RX8 49 RX8 yX8_highAt wsX8_highAt) := goodIn_app (goodIn_of _ (by decide +kernel)) ggX8_raise_X8_highAt
set_option maxRecDepth 20000 in
theorem ggX8_raise_X8_setHigh : GoodIn wsX8_raise wsX8_setHigh := goodIn_r _ [10, 6, 11, 12, 13, 14, 15, 16, 17, 18, 19, 20, 21, 22] (by decide +kernel) (by decide +kernel)
set_option maxRecDepth 20000 in
theorem gX8_raise_X8_setHigh : GoodIn wsX8_raise (wsV RX8 53 RX8 yX8_setHigh wsX8_setHigh) := goodIn_app (goodIn_of _ (by decide +kernel)) ggX8_raise_X8_setHigh
set_option maxRecDepth 20000 in
theorem ggX8_lower_X8_highAt : GoodIn wsX8_lower wsX8_highAt := goodIn_r _ [5, 6, 18, 19, 20, 21, 22] (by decide +kernel) (by decide +kernel)
set_option maxRecDepth 20000 in
theorem gX8_lower_X8_highAt : GoodIn wsX8_lower (wsV RX8 49 RX8 yX8_highAt wsX8_highAt) := goodIn_app (goodIn_of _ (by decide +kernel)) ggX8_lower_X8_highAt
set_option maxRecDepth 20000 in
theorem ggX8_lower_X8_setHigh : GoodIn wsX8_lower wsX8_setHigh := goodIn_r _ [10, 6, 11, 12, 13, 14, 15, 16, 17, 18, 19, 20, 21, 22] (by decide +kernel) (by decide +kernel)
set_option maxRecDepth 20000 in
theorem gX8_lower_X8_setHigh : GoodIn wsX8_lower (wsV RX8 53 RX8 yX8_setHigh wsX8_setHigh) := goodIn_app (goodIn_of _ (by decide +kernel)) ggX8_lower_X8_setHigh
set_option maxRecDepth 20000 in
theorem ggX8_hollowCells_X9_isHollow : GoodIn wsX8_hollowCells wsX9_isHollow := goodIn_r _ [4] (by decide +kernel) (by decide +kernel)
set_option maxRecDepth 20000 in
theorem gX8_hollowCells_X9_isHollow_n57 : GoodIn wsX8_hollowCells (wsX9_isHollow) := ggX8_hollowCells_X9_isHollow
set_option maxRecDepth 20000 in
theorem ggX8_pardonedCases_J6_bitCount_0f7a4 : GoodIn wsX8_pardonedCases wsJ6_bitCount_0f7a4 := goodIn_r _ [5, 6, 7, 8] (by decide +kernel) (by decide +kernel)
set_option maxRecDepth 20000 in
theorem gX8_pardonedCases_J6_bitCount_0f7a4 : GoodIn wsX8_pardonedCases (va_wsS RX8 61 yJ6_bitCount_0f7a4 wsJ6_bitCount_0f7a4) := goodIn_app (goodIn_of _ (by decide +kernel)) ggX8_pardonedCases_J6_bitCount_0f7a4
set_option maxRecDepth 20000 in
theorem ggX9_init_X0_init : GoodIn wsX9_init wsX0_init := goodIn_r _ [44, 45, 2, 3, 46, 47, 48, 258, 259] (by decide +kernel) (by decide +kernel)
set_option maxRecDepth 20000 in
theorem gX9_init_X0_init_n11 : GoodIn wsX9_init (wsX0_init) := ggX9_init_X0_init
set_option maxRecDepth 20000 in
theorem ggX9_init_X3_init : GoodIn wsX9_init wsX3_init := goodIn_r _ [50, 51, 2, 3, 52, 53, 54, 55, 272, 273, 274] (by decide +kernel) (by decide +kernel)
set_option maxRecDepth 20000 in
theorem gX9_init_X3_init_n18 : GoodIn wsX9_init (wsX3_init) := ggX9_init_X3_init
set_option maxRecDepth 20000 in
theorem ggX9_init_X2_init : GoodIn wsX9_init wsX2_init := goodIn_r _ [57, 58, 2, 3, 52, 59, 60, 61, 62, 63, 64, 65, 275, 276, 277, 278, 279, 280, 281] (by decide +kernel) (by decide +kernel)
set_option maxRecDepth 20000 in
theorem gX9_init_X2_init_n25 : GoodIn wsX9_init (wsX2_init) := ggX9_init_X2_init
set_option maxRecDepth 20000 in
theorem ggX9_init_X8_init : GoodIn wsX9_init wsX8_init := goodIn_r _ [67, 68, 2, 3, 52, 69, 70, 71, 72, 73, 282, 283, 284, 285, 286] (by decide +kernel) (by decide +kernel)
set_option maxRecDepth 20000 in
theorem gX9_init_X8_init_n35 : GoodIn wsX9_init (wsX8_init) := ggX9_init_X8_init
set_option maxRecDepth 20000 in
theorem ggX9_init_X1_init : GoodIn wsX9_init wsX1_init := goodIn_r _ [76, 77, 2, 3, 78, 79, 80, 81, 82, 83, 84, 18, 19, 66, 67, 68, 52, 69, 70, 71, 72, 73, 287, 288, 282, 283, 284, 285, 286] (by decide +kernel) (by decide +kernel)
set_option maxRecDepth 20000 in
theorem gX9_init_X1_init : GoodIn wsX9_init (wsX1_init) := ggX9_init_X1_init
set_option maxRecDepth 20000 in
theorem ggX9_init_X6_init : GoodIn wsX9_init wsX6_init := goodIn_r _ [86, 87, 2, 3, 52, 88, 89, 90, 289, 290, 291] (by decide +kernel) (by decide +kernel)
set_option maxRecDepth 20000 in
theorem gX9_init_X6_init_n57 : GoodIn wsX9_init (wsX6_init) := ggX9_init_X6_init
set_option maxRecDepth 20000 in
theorem ggX9_init_X7_init : GoodIn wsX9_init wsX7_init := goodIn_r _ [92, 93, 2, 3, 52, 94, 95, 292, 293] (by decide +kernel) (by decide +kernel)
set_option maxRecDepth 20000 in
theorem gX9_init_X7_init_n64 : GoodIn wsX9_init (wsX7_init) := ggX9_init_X7_init
set_option maxRecDepth 20000 in
theorem ggX9_init_X4_init : GoodIn wsX9_init wsX4_init := goodIn_r _ [97, 98, 2, 3, 52, 99, 100, 101, 294, 295, 296] (by decide +kernel) (by decide +kernel)
set_option maxRecDepth 20000 in
theorem gX9_init_X4_init_n71 : GoodIn wsX9_init (wsX4_init) := ggX9_init_X4_init
set_option maxRecDepth 20000 in
theorem ggX9_init_X5_init : GoodIn wsX9_init wsX5_init := goodIn_r _ [103, 104, 2, 3, 52, 105, 106, 297, 298] (by decide +kernel) (by decide +kernel)
set_option maxRecDepth 20000 in
theorem gX9_init_X5_init_n78 : GoodIn wsX9_init (wsX5_init) := ggX9_init_X5_init
set_option maxRecDepth 20000 in
theorem ggX9_init_J0_length_8abf5 : GoodIn wsX9_init wsJ0_length_8abf5 := goodIn_r _ [111, 112, 113, 114, 115, 110, 116, 117, 118] (by decide +kernel) (by decide +kernel)
set_option maxRecDepth 20000 in
theorem gX9_init_J0_length_8abf5 : GoodIn wsX9_init (wsV RX9 85 RJ0 yJ0_length_8abf5 wsJ0_length_8abf5) := goodIn_app (goodIn_of _ (by decide +kernel)) ggX9_init_J0_length_8abf5
set_option maxRecDepth 20000 in
theorem ggX9_init_J0_charAt_5068e : GoodIn wsX9_init wsJ0_charAt_5068e := goodIn_r _ [122, 112, 123, 124, 125, 110, 126, 117, 118, 127, 128, 129, 130, 131, 132, 133, 134, 135, 136, 137, 138, 139, 140, 141, 142, 143, 144, 145, 146, 147, 148, 149, 150, 151, 152, 153, 154, 155] (by decide +kernel) (by decide +kernel)
set_option maxRecDepth 20000 in
theorem gX9_init_J0_charAt_5068e : GoodIn wsX9_init (wsV RX9 91 RJ0 yJ0_charAt_5068e wsJ0_charAt_5068e) := goodIn_app (goodIn_of _ (by decide +kernel)) ggX9_init_J0_charAt_5068e
set_option maxRecDepth 20000 in
theorem ggX9_init_X0_add : GoodIn wsX9_init wsX0_add := goodIn_r _ [159, 48, 47, 258, 259] (by decide +kernel) (by decide +kernel)
set_option maxRecDepth 20000 in
theorem gX9_init_X0_add : GoodIn wsX9_init (wsV RX9 95 RX0 yX0_add wsX0_add) := goodIn_app (goodIn_of _ (by decide +kernel)) ggX9_init_X0_add
set_option maxRecDepth 20000 in
theorem ggX9_init_X3_read : GoodIn wsX9_init wsX3_read := goodIn_r _ [163, 55, 164, 165, 166, 14, 167, 59, 62, 63, 64, 65, 168, 169, 170, 171, 172, 173, 174, 6, 175, 48, 176, 177, 178, 10, 179, 53, 180, 181, 182, 183, 47, 184, 185, 186, 187, 54, 188, 189, 190, 191, 192, 193, 194, 195, 196, 197, 198, 199, 200, 201, 202, 203, 204, 205, 206, 207, 208, 209, 210, 211, 212, 60, 213, 214, 215, 216, 217, 218, 219, 220, 61, 272, 273, 274, 275, 276, 277, 278, 279, 280, 281, 258, 259] (by decide +kernel) (by decide +kernel)
set_option maxRecDepth 20000 in
theorem gX9_init_X3_read : GoodIn wsX9_init (wsV RX9 99 RX3 yX3_read wsX3_read) := goodIn_app (goodIn_of _ (by decide +kernel)) ggX9_init_X3_read
set_option maxRecDepth 20000 in
theorem ggX9_init_X2_layOut : GoodIn wsX9_init wsX2_layOut := goodIn_r _ [224, 59, 65, 225, 226, 227, 19, 228, 69, 70, 71, 72, 73, 229, 169, 170, 171, 230, 231, 232, 233, 234, 235, 81, 236, 237, 80, 82, 238, 239, 240, 14, 241, 61, 242, 243, 244, 245, 246, 247, 248, 249, 250, 251, 252, 253, 275, 276, 277, 278, 279, 280, 281, 282, 283, 284, 285, 286] (by decide +kernel) (by decide +kernel)
set_option maxRecDepth 20000 in
theorem gX9_init_X2_layOut : GoodIn wsX9_init (wsV RX9 103 RX2 yX2_layOut wsX2_layOut) := goodIn_app (goodIn_of _ (by decide +kernel)) ggX9_init_X2_layOut
set_option maxRecDepth 20000 in
theorem ggX9_init_X0_clear : GoodIn wsX9_init wsX0_clear := goodIn_r _ [257, 48, 258, 259] (by decide +kernel) (by decide +kernel)
set_option maxRecDepth 20000 in
theorem gX9_init_X0_clear : GoodIn wsX9_init (wsV RX9 107 RX0 yX0_clear wsX0_clear) := goodIn_app (goodIn_of _ (by decide +kernel)) ggX9_init_X0_clear
set_option maxRecDepth 20000 in
theorem ggX9_write_X0_isFull : GoodIn wsX9_write wsX0_isFull := goodIn_r _ [6, 7, 8, 29, 30] (by decide +kernel) (by decide +kernel)
set_option maxRecDepth 20000 in
theorem gX9_write_X0_isFull : GoodIn wsX9_write (wsV RX9 110 RX0 yX0_isFull wsX0_isFull) := goodIn_app (goodIn_of _ (by decide +kernel)) ggX9_write_X0_isFull
set_option maxRecDepth 20000 in
theorem ggX9_write_X0_add : GoodIn wsX9_write wsX0_add := goodIn_r _ [12, 7, 8, 29, 30] (by decide +kernel) (by decide +kernel)
set_option maxRecDepth 20000 in
theorem gX9_write_X0_add : GoodIn wsX9_write (wsV RX9 95 RX0 yX0_add wsX0_add) := goodIn_app (goodIn_of _ (by decide +kernel)) ggX9_write_X0_add
set_option maxRecDepth 20000 in
theorem ggX9_write_X0_size : GoodIn wsX9_write wsX0_size := goodIn_r _ [16, 7, 29, 30] (by decide +kernel) (by decide +kernel)
set_option maxRecDepth 20000 in
theorem gX9_write_X0_size : GoodIn wsX9_write (wsV RX9 114 RX0 yX0_size wsX0_size) := goodIn_app (goodIn_of _ (by decide +kernel)) ggX9_write_X0_size
set_option maxRecDepth 20000 in
theorem ggX9_wipe_X0_size : GoodIn wsX9_wipe wsX0_size := goodIn_r _ [6, 7, 24, 25] (by decide +kernel) (by decide +kernel)
set_option maxRecDepth 20000 in
theorem gX9_wipe_X0_size : GoodIn wsX9_wipe (wsV RX9 114 RX0 yX0_size wsX0_size) := goodIn_app (goodIn_of _ (by decide +kernel)) ggX9_wipe_X0_size
set_option maxRecDepth 20000 in
theorem ggX9_wipe_X0_clear : GoodIn wsX9_wipe wsX0_clear := goodIn_r _ [11, 7, 24, 25] (by decide +kernel) (by decide +kernel)
set_option maxRecDepth 20000 in
theorem gX9_wipe_X0_clear : GoodIn wsX9_wipe (wsV RX9 107 RX0 yX0_clear wsX0_clear) := goodIn_app (goodIn_of _ (by decide +kernel)) ggX9_wipe_X0_clear
set_option maxRecDepth 20000 in
theorem ggX9_fault_X3_read : GoodIn wsX9_fault wsX3_read := goodIn_r _ [8, 9, 10, 11, 12, 13, 14, 15, 16, 17, 18, 19, 20, 21, 22, 23, 24, 25, 26, 27, 28, 29, 30, 31, 32, 7, 33, 34, 35, 36, 37, 38, 39, 40, 41, 42, 43, 44, 45, 46, 47, 48, 49, 50, 51, 52, 53, 54, 55, 56, 57, 58, 59, 60, 61, 62, 63, 64, 65, 66, 67, 68, 69, 70, 71, 72, 73, 74, 75, 76, 77, 78, 79, 92, 93, 94, 95, 96, 97, 98, 99, 100, 101, 102, 103] (by decide +kernel) (by decide +kernel)
set_option maxRecDepth 20000 in
theorem gX9_fault_X3_read : GoodIn wsX9_fault (wsV RX9 99 RX3 yX3_read wsX3_read) := goodIn_app (goodIn_of _ (by decide +kernel)) ggX9_fault_X3_read
set_option maxRecDepth 20000 in
theorem ggX9_lay_X3_read : GoodIn wsX9_lay wsX3_read := goodIn_r _ [13, 14, 15, 16, 17, 18, 19, 20, 21, 22, 23, 24, 25, 26, 27, 28, 29, 30, 31, 32, 33, 34, 35, 36, 37, 12, 38, 39, 40, 41, 42, 43, 44, 45, 46, 47, 48, 49, 50, 51, 52, 53, 54, 55, 56, 57, 58, 59, 60, 61, 62, 63, 64, 65, 66, 67, 68, 69, 70, 71, 72, 73, 74, 75, 76, 77, 78, 79, 80, 81, 82, 83, 84, 156, 157, 158, 159, 160, 161, 162, 163, 164, 165, 166, 167] (by decide +kernel) (by decide +kernel)
set_option maxRecDepth 20000 in
theorem gX9_lay_X3_read : GoodIn wsX9_lay (wsV RX9 99 RX3 yX3_read wsX3_read) := goodIn_app (goodIn_of _ (by decide +kernel)) ggX9_lay_X3_read
set_option maxRecDepth 20000 in
theorem ggX9_lay_X2_cellCount : GoodIn wsX9_lay wsX2_cellCount := goodIn_r _ [66, 22, 21, 159, 160, 161, 162, 163, 164, 165] (by decide +kernel) (by decide +kernel)
set_option maxRecDepth 20000 in
theorem gX9_lay_X2_cellCount : GoodIn wsX9_lay (wsV RX9 117 RX2 yX2_cellCount wsX2_cellCount) := goodIn_app (goodIn_of _ (by decide +kernel)) ggX9_lay_X2_cellCount
set_option maxRecDepth 20000 in
theorem ggX9_lay_X2_copyFrom : GoodIn wsX9_lay wsX2_copyFrom := goodIn_r _ [89, 20, 76, 77, 78, 79, 75, 84, 21, 22, 23, 24, 159, 160, 161, 162, 163, 164, 165] (by decide +kernel) (by decide +kernel)
set_option maxRecDepth 20000 in
theorem gX9_lay_X2_copyFrom : GoodIn wsX9_lay (wsV RX9 120 RX2 yX2_copyFrom wsX2_copyFrom) := goodIn_app (goodIn_of _ (by decide +kernel)) ggX9_lay_X2_copyFrom
set_option maxRecDepth 20000 in
theorem ggX9_lay_X2_layOut : GoodIn wsX9_lay wsX2_layOut := goodIn_r _ [93, 20, 24, 94, 95, 96, 97, 98, 99, 100, 101, 102, 103, 104, 26, 27, 28, 105, 106, 107, 108, 109, 110, 111, 112, 113, 114, 115, 116, 117, 118, 18, 119, 84, 120, 121, 122, 123, 124, 125, 126, 127, 128, 129, 130, 131, 159, 160, 161, 162, 163, 164, 165, 168, 169, 170, 171, 172] (by decide +kernel) (by decide +kernel)
set_option maxRecDepth 20000 in
theorem gX9_lay_X2_layOut : GoodIn wsX9_lay (wsV RX9 103 RX2 yX2_layOut wsX2_layOut) := goodIn_app (goodIn_of _ (by decide +kernel)) ggX9_lay_X2_layOut
set_option maxRecDepth 20000 in
theorem ggX9_lay_X6_clear : GoodIn wsX9_lay wsX6_clear := goodIn_r _ [136, 137, 173, 174, 175] (by decide +kernel) (by decide +kernel)
set_option maxRecDepth 20000 in
theorem gX9_lay_X6_clear : GoodIn wsX9_lay (wsV RX9 124 RX6 yX6_clear wsX6_clear) := goodIn_app (goodIn_of _ (by decide +kernel)) ggX9_lay_X6_clear
set_option maxRecDepth 20000 in
theorem ggX9_lay_X1_clear : GoodIn wsX9_lay wsX1_clear := goodIn_r _ [142, 143, 176, 177] (by decide +kernel) (by decide +kernel)
set_option maxRecDepth 20000 in
theorem gX9_lay_X1_clear : GoodIn wsX9_lay (wsV RX9 125 RX1 yX1_clear wsX1_clear) := goodIn_app (goodIn_of _ (by decide +kernel)) ggX9_lay_X1_clear
set_option maxRecDepth 20000 in
theorem ggX9_high_X9_isCell : GoodIn wsX9_high wsX9_isCell := goodIn_r _ [6, 7, 8, 9, 10, 11, 12, 13, 14, 21, 22, 23, 24, 25, 26, 27, 28, 29, 30, 31, 32, 33, 34, 35, 36, 37, 38, 39] (by decide +kernel) (by decide +kernel)
set_option maxRecDepth 20000 in
theorem gX9_high_X9_isCell : GoodIn wsX9_high (wsV RX9 126 RX9 yX9_isCell wsX9_isCell) := goodIn_app (goodIn_of _ (by decide +kernel)) ggX9_high_X9_isCell
set_option maxRecDepth 20000 in
theorem ggX9_high_X8_highAt : GoodIn wsX9_high wsX8_highAt := goodIn_r _ [19, 20, 40, 41, 42, 43, 44] (by decide +kernel) (by decide +kernel)
set_option maxRecDepth 20000 in
theorem gX9_high_X8_highAt : GoodIn wsX9_high (wsV RX9 130 RX8 yX8_highAt wsX8_highAt) := goodIn_app (goodIn_of _ (by decide +kernel)) ggX9_high_X8_highAt
set_option maxRecDepth 20000 in
theorem ggX9_matter_X9_isCase : GoodIn wsX9_matter wsX9_isCase := goodIn_r _ [7, 1, 8, 9, 10, 11, 12, 13, 45, 46, 47, 48, 49, 50, 51, 52, 53, 54, 55, 56, 57, 58, 59, 60, 61, 62, 63] (by decide +kernel) (by decide +kernel)
set_option maxRecDepth 20000 in
theorem gX9_matter_X9_isCase : GoodIn wsX9_matter (wsV RX9 134 RX9 yX9_isCase wsX9_isCase) := goodIn_app (goodIn_of _ (by decide +kernel)) ggX9_matter_X9_isCase
set_option maxRecDepth 20000 in
theorem ggX9_matter_X2_ofCase : GoodIn wsX9_matter wsX2_ofCase := goodIn_r _ [17, 18, 57, 58, 59, 60, 61, 62, 63] (by decide +kernel) (by decide +kernel)
set_option maxRecDepth 20000 in
theorem gX9_matter_X2_ofCase : GoodIn wsX9_matter (wsV RX9 137 RX2 yX2_ofCase wsX2_ofCase) := goodIn_app (goodIn_of _ (by decide +kernel)) ggX9_matter_X2_ofCase
set_option maxRecDepth 20000 in
theorem ggX9_matter_X8_isPardoned : GoodIn wsX9_matter wsX8_isPardoned := goodIn_r _ [23, 24, 64, 65, 66, 67, 68] (by decide +kernel) (by decide +kernel)
set_option maxRecDepth 20000 in
theorem gX9_matter_X8_isPardoned : GoodIn wsX9_matter (wsV RX9 141 RX8 yX8_isPardoned wsX8_isPardoned) := goodIn_app (goodIn_of _ (by decide +kernel)) ggX9_matter_X8_isPardoned
set_option maxRecDepth 20000 in
theorem ggX9_matter_X9_wouldRaise : GoodIn wsX9_matter wsX9_wouldRaise := goodIn_r _ [28, 2, 1, 29, 30, 31, 32, 19, 20, 21, 22, 23, 24, 14, 15, 16, 11, 17, 18, 33, 34, 35, 36, 37, 38, 39, 40, 41, 42, 43, 6, 44, 45, 46, 47, 48, 49, 50, 51, 52, 53, 54, 55, 56, 64, 65, 66, 67, 68, 57, 58, 59, 60, 61, 62, 63] (by decide +kernel) (by decide +kernel)
set_option maxRecDepth 20000 in
theorem gX9_matter_X9_wouldRaise : GoodIn wsX9_matter (wsV RX9 144 RX9 yX9_wouldRaise wsX9_wouldRaise) := goodIn_app (goodIn_of _ (by decide +kernel)) ggX9_matter_X9_wouldRaise
set_option maxRecDepth 20000 in
theorem ggX9_maid_X9_isMaid : GoodIn wsX9_maid wsX9_isMaid := goodIn_r _ [11, 2, 12, 13, 14, 15, 16, 17, 46, 47, 48, 49, 50, 51, 52, 53, 54, 55, 56, 57, 58, 59, 60, 61, 62, 63, 64] (by decide +kernel) (by decide +kernel)
set_option maxRecDepth 20000 in
theorem gX9_maid_X9_isMaid : GoodIn wsX9_maid (wsV RX9 147 RX9 yX9_isMaid wsX9_isMaid) := goodIn_app (goodIn_of _ (by decide +kernel)) ggX9_maid_X9_isMaid
set_option maxRecDepth 20000 in
theorem ggX9_maid_X8_placeOf : GoodIn wsX9_maid wsX8_placeOf := goodIn_r _ [22, 23, 65, 66, 67, 68, 69] (by decide +kernel) (by decide +kernel)
set_option maxRecDepth 20000 in
theorem gX9_maid_X8_placeOf : GoodIn wsX9_maid (wsV RX9 150 RX8 yX8_placeOf wsX8_placeOf) := goodIn_app (goodIn_of _ (by decide +kernel)) ggX9_maid_X8_placeOf
set_option maxRecDepth 20000 in
theorem ggX9_maid_X8_highAt : GoodIn wsX9_maid wsX8_highAt := goodIn_r _ [27, 28, 65, 66, 67, 68, 69] (by decide +kernel) (by decide +kernel)
set_option maxRecDepth 20000 in
theorem gX9_maid_X8_highAt : GoodIn wsX9_maid (wsV RX9 130 RX8 yX8_highAt wsX8_highAt) := goodIn_app (goodIn_of _ (by decide +kernel)) ggX9_maid_X8_highAt
set_option maxRecDepth 20000 in
theorem ggX9_maid_X2_ofMaid : GoodIn wsX9_maid wsX2_ofMaid := goodIn_r _ [32, 33, 58, 59, 60, 61, 62, 63, 64] (by decide +kernel) (by decide +kernel)
set_option maxRecDepth 20000 in
theorem gX9_maid_X2_ofMaid : GoodIn wsX9_maid (wsV RX9 153 RX2 yX2_ofMaid wsX2_ofMaid) := goodIn_app (goodIn_of _ (by decide +kernel)) ggX9_maid_X2_ofMaid
set_option maxRecDepth 20000 in
theorem ggX9_maid_X8_leftTo : GoodIn wsX9_maid wsX8_leftTo := goodIn_r _ [37, 38, 65, 66, 67, 68, 69] (by decide +kernel) (by decide +kernel)
set_option maxRecDepth 20000 in
theorem gX9_maid_X8_leftTo : GoodIn wsX9_maid (wsV RX9 156 RX8 yX8_leftTo wsX8_leftTo) := goodIn_app (goodIn_of _ (by decide +kernel)) ggX9_maid_X8_leftTo
set_option maxRecDepth 20000 in
theorem ggX9_maid_X2_takes : GoodIn wsX9_maid wsX2_takes := goodIn_r _ [42, 43, 30, 31, 15, 32, 33, 44, 10, 45, 58, 59, 60, 61, 62, 63, 64] (by decide +kernel) (by decide +kernel)
set_option maxRecDepth 20000 in
theorem gX9_maid_X2_takes : GoodIn wsX9_maid (wsV RX9 159 RX2 yX2_takes wsX2_takes) := goodIn_app (goodIn_of _ (by decide +kernel)) ggX9_maid_X2_takes
set_option maxRecDepth 20000 in
theorem ggX9_stroke_X9_isMaid : GoodIn wsX9_stroke wsX9_isMaid := goodIn_r _ [8, 1, 9, 10, 11, 12, 13, 14, 130, 131, 132, 133, 134, 135, 136, 137, 138, 139, 140, 141, 142, 143, 144, 145, 146, 147, 148] (by decide +kernel) (by decide +kernel)
set_option maxRecDepth 20000 in
theorem gX9_stroke_X9_isMaid : GoodIn wsX9_stroke (wsV RX9 147 RX9 yX9_isMaid wsX9_isMaid) := goodIn_app (goodIn_of _ (by decide +kernel)) ggX9_stroke_X9_isMaid
set_option maxRecDepth 20000 in
theorem ggX9_stroke_X9_isCell : GoodIn wsX9_stroke wsX9_isCell := goodIn_r _ [18, 1, 19, 20, 21, 12, 22, 23, 24, 130, 131, 132, 133, 134, 135, 136, 137, 138, 139, 140, 141, 142, 143, 144, 145, 146, 147, 148] (by decide +kernel) (by decide +kernel)
set_option maxRecDepth 20000 in
theorem gX9_stroke_X9_isCell : GoodIn wsX9_stroke (wsV RX9 126 RX9 yX9_isCell wsX9_isCell) := goodIn_app (goodIn_of _ (by decide +kernel)) ggX9_stroke_X9_isCell
set_option maxRecDepth 20000 in
theorem ggX9_stroke_X2_canStrike : GoodIn wsX9_stroke wsX2_canStrike := goodIn_r _ [28, 29, 30, 31, 32, 33, 34, 35, 36, 37, 38, 39, 40, 41, 42, 12, 43, 44, 45, 46, 47, 23, 24, 149, 150, 151, 152, 153, 142, 143, 144, 145, 146, 147, 148] (by decide +kernel) (by decide +kernel)
set_option maxRecDepth 20000 in
theorem gX9_stroke_X2_canStrike : GoodIn wsX9_stroke (wsV RX9 167 RX2 yX2_canStrike wsX2_canStrike) := goodIn_app (goodIn_of _ (by decide +kernel)) ggX9_stroke_X2_canStrike
set_option maxRecDepth 20000 in
theorem ggX9_stroke_X1_push : GoodIn wsX9_stroke wsX1_push := goodIn_r _ [52, 53, 54, 55, 56, 51, 57, 58, 59, 60, 61, 62, 63, 64, 65, 66, 67, 68, 69, 32, 70, 71, 72, 73, 74, 75, 34, 39, 76, 77, 154, 155, 149, 150, 151, 152, 153] (by decide +kernel) (by decide +kernel)
set_option maxRecDepth 20000 in
theorem gX9_stroke_X1_push : GoodIn wsX9_stroke (wsV RX9 171 RX1 yX1_push wsX1_push) := goodIn_app (goodIn_of _ (by decide +kernel)) ggX9_stroke_X1_push
set_option maxRecDepth 20000 in
theorem ggX9_stroke_X2_strike : GoodIn wsX9_stroke wsX2_strike := goodIn_r _ [81, 82, 83, 84, 32, 85, 71, 86, 87, 88, 12, 89, 90, 91, 92, 93, 94, 95, 7, 96, 97, 98, 99, 100, 101, 102, 103, 104, 105, 106, 107, 108, 109, 110, 111, 112, 113, 114, 115, 116, 44, 45, 46, 47, 23, 24, 117, 118, 119, 120, 29, 30, 31, 33, 34, 121, 122, 123, 124, 125, 126, 127, 128, 39, 149, 150, 151, 152, 153, 142, 143, 144, 145, 146, 147, 148] (by decide +kernel) (by decide +kernel)
set_option maxRecDepth 20000 in
theorem gX9_stroke_X2_strike : GoodIn wsX9_stroke (wsV RX9 174 RX2 yX2_strike wsX2_strike) := goodIn_app (goodIn_of _ (by decide +kernel)) ggX9_stroke_X2_strike
set_option maxRecDepth 20000 in
theorem ggX9_stroke_X8_highAt : GoodIn wsX9_stroke wsX8_highAt := goodIn_r _ [85, 71, 149, 150, 151, 152, 153] (by decide +kernel) (by decide +kernel)
set_option maxRecDepth 20000 in
theorem gX9_stroke_X8_highAt : GoodIn wsX9_stroke (wsV RX9 130 RX8 yX8_highAt wsX8_highAt) := goodIn_app (goodIn_of _ (by decide +kernel)) ggX9_stroke_X8_highAt
set_option maxRecDepth 20000 in
theorem ggX9_pass_X8_yearIs : GoodIn wsX9_pass wsX8_yearIs := goodIn_r _ [8, 9, 128, 129, 130, 131, 132] (by decide +kernel) (by decide +kernel)
set_option maxRecDepth 20000 in
theorem gX9_pass_X8_yearIs : GoodIn wsX9_pass (wsV RX9 178 RX8 yX8_yearIs wsX8_yearIs) := goodIn_app (goodIn_of _ (by decide +kernel)) ggX9_pass_X8_yearIs
set_option maxRecDepth 20000 in
theorem ggX9_pass_X1_push : GoodIn wsX9_pass wsX1_push := goodIn_r _ [14, 15, 16, 17, 18, 13, 19, 20, 21, 22, 23, 24, 25, 26, 27, 28, 29, 30, 31, 7, 32, 33, 34, 35, 36, 37, 38, 39, 40, 9, 133, 134, 128, 129, 130, 131, 132] (by decide +kernel) (by decide +kernel)
set_option maxRecDepth 20000 in
theorem gX9_pass_X1_push : GoodIn wsX9_pass (wsV RX9 171 RX1 yX1_push wsX1_push) := goodIn_app (goodIn_of _ (by decide +kernel)) ggX9_pass_X1_push
set_option maxRecDepth 20000 in
theorem ggX9_pass_X2_yearsGoBy : GoodIn wsX9_pass wsX2_yearsGoBy := goodIn_r _ [45, 46, 47, 48, 49, 44, 50, 51, 52, 5, 6, 7, 8, 9, 53, 54, 55, 56, 40, 57, 58, 59, 60, 61, 62, 63, 64, 33, 65, 66, 67, 68, 69, 70, 71, 72, 73, 74, 75, 76, 77, 78, 79, 80, 81, 82, 83, 84, 85, 86, 87, 88, 89, 90, 91, 92, 93, 94, 95, 96, 97, 98, 99, 100, 101, 102, 103, 104, 105, 106, 107, 108, 109, 110, 111, 38, 112, 113, 114, 115, 135, 136, 137, 138, 139, 140, 141, 128, 129, 130, 131, 132] (by decide +kernel) (by decide +kernel)
set_option maxRecDepth 20000 in
theorem gX9_pass_X2_yearsGoBy : GoodIn wsX9_pass (wsV RX9 181 RX2 yX2_yearsGoBy wsX2_yearsGoBy) := goodIn_app (goodIn_of _ (by decide +kernel)) ggX9_pass_X2_yearsGoBy
set_option maxRecDepth 20000 in
theorem ggX9_pardon_X9_isCase : GoodIn wsX9_pardon wsX9_isCase := goodIn_r _ [7, 8, 9, 10, 11, 12, 13, 14, 71, 72, 73, 74, 75, 76, 77, 78, 79, 80, 81, 82, 83, 84, 85, 86, 87, 88, 89] (by decide +kernel) (by decide +kernel)
set_option maxRecDepth 20000 in
theorem gX9_pardon_X9_isCase : GoodIn wsX9_pardon (wsV RX9 134 RX9 yX9_isCase wsX9_isCase) := goodIn_app (goodIn_of _ (by decide +kernel)) ggX9_pardon_X9_isCase
set_option maxRecDepth 20000 in
theorem ggX9_pardon_X8_isPardoned : GoodIn wsX9_pardon wsX8_isPardoned := goodIn_r _ [19, 20, 90, 91, 92, 93, 94] (by decide +kernel) (by decide +kernel)
set_option maxRecDepth 20000 in
theorem gX9_pardon_X8_isPardoned : GoodIn wsX9_pardon (wsV RX9 141 RX8 yX8_isPardoned wsX8_isPardoned) := goodIn_app (goodIn_of _ (by decide +kernel)) ggX9_pardon_X8_isPardoned
set_option maxRecDepth 20000 in
theorem ggX9_pardon_X1_push : GoodIn wsX9_pardon wsX1_push := goodIn_r _ [25, 26, 27, 28, 29, 24, 30, 31, 32, 33, 34, 35, 36, 37, 38, 39, 40, 41, 42, 18, 43, 44, 45, 46, 47, 48, 49, 50, 20, 51, 95, 96, 90, 91, 92, 93, 94] (by decide +kernel) (by decide +kernel)
set_option maxRecDepth 20000 in
theorem gX9_pardon_X1_push : GoodIn wsX9_pardon (wsV RX9 171 RX1 yX1_push wsX1_push) := goodIn_app (goodIn_of _ (by decide +kernel)) ggX9_pardon_X1_push
set_option maxRecDepth 20000 in
theorem ggX9_pardon_X8_letOff : GoodIn wsX9_pardon wsX8_letOff := goodIn_r _ [55, 20, 90, 91, 92, 93, 94] (by decide +kernel) (by decide +kernel)
set_option maxRecDepth 20000 in
theorem gX9_pardon_X8_letOff : GoodIn wsX9_pardon (wsV RX9 185 RX8 yX8_letOff wsX8_letOff) := goodIn_app (goodIn_of _ (by decide +kernel)) ggX9_pardon_X8_letOff
set_option maxRecDepth 20000 in
theorem ggX9_pardon_X9_casesNotPardoned : GoodIn wsX9_pardon wsX9_casesNotPardoned := goodIn_r _ [59, 8, 1, 9, 10, 11, 12, 13, 14, 60, 61, 62, 18, 63, 20, 64, 65, 66, 67, 68, 69, 70, 71, 72, 73, 74, 75, 76, 77, 78, 79, 80, 81, 82, 83, 84, 85, 86, 87, 88, 89, 90, 91, 92, 93, 94] (by decide +kernel) (by decide +kernel)
set_option maxRecDepth 20000 in
theorem gX9_pardon_X9_casesNotPardoned : GoodIn wsX9_pardon (wsV RX9 188 RX9 yX9_casesNotPardoned wsX9_casesNotPardoned) := goodIn_app (goodIn_of _ (by decide +kernel)) ggX9_pardon_X9_casesNotPardoned
set_option maxRecDepth 20000 in
theorem ggX9_undo_X1_size : GoodIn wsX9_undo wsX1_size := goodIn_r _ [7, 8, 44, 45] (by decide +kernel) (by decide +kernel)
set_option maxRecDepth 20000 in
theorem gX9_undo_X1_size : GoodIn wsX9_undo (wsV RX9 191 RX1 yX1_size wsX1_size) := goodIn_app (goodIn_of _ (by decide +kernel)) ggX9_undo_X1_size
set_option maxRecDepth 20000 in
theorem ggX9_undo_X1_popInto : GoodIn wsX9_undo wsX1_popInto := goodIn_r _ [12, 8, 13, 14, 15, 6, 16, 17, 18, 19, 20, 21, 22, 23, 24, 25, 26, 27, 28, 29, 30, 31, 44, 45, 46, 47, 48, 49, 50] (by decide +kernel) (by decide +kernel)
set_option maxRecDepth 20000 in
theorem gX9_undo_X1_popInto : GoodIn wsX9_undo (wsV RX9 192 RX1 yX1_popInto wsX1_popInto) := goodIn_app (goodIn_of _ (by decide +kernel)) ggX9_undo_X1_popInto
set_option maxRecDepth 20000 in
theorem ggX9_behind_X9_isCell : GoodIn wsX9_behind wsX9_isCell := goodIn_r _ [8, 3, 9, 10, 11, 12, 13, 14, 15, 105, 106, 107, 108, 109, 110, 111, 112, 113, 114, 115, 116, 117, 118, 119, 120, 121, 122, 123] (by decide +kernel) (by decide +kernel)
set_option maxRecDepth 20000 in
theorem gX9_behind_X9_isCell : GoodIn wsX9_behind (wsV RX9 126 RX9 yX9_isCell wsX9_isCell) := goodIn_app (goodIn_of _ (by decide +kernel)) ggX9_behind_X9_isCell
set_option maxRecDepth 20000 in
theorem ggX9_behind_X8_copyFrom : GoodIn wsX9_behind wsX8_copyFrom := goodIn_r _ [20, 21, 22, 23, 24, 25, 26, 27, 28, 29, 124, 125, 126, 127, 128] (by decide +kernel) (by decide +kernel)
set_option maxRecDepth 20000 in
theorem gX9_behind_X8_copyFrom : GoodIn wsX9_behind (wsV RX9 195 RX8 yX8_copyFrom wsX8_copyFrom) := goodIn_app (goodIn_of _ (by decide +kernel)) ggX9_behind_X8_copyFrom
set_option maxRecDepth 20000 in
theorem ggX9_behind_X2_yearsGoBy : GoodIn wsX9_behind wsX2_yearsGoBy := goodIn_r _ [33, 34, 35, 36, 37, 12, 38, 39, 40, 41, 42, 19, 43, 29, 44, 45, 46, 47, 28, 48, 49, 50, 51, 52, 53, 54, 55, 21, 56, 57, 58, 59, 60, 7, 61, 62, 63, 64, 65, 66, 67, 68, 69, 70, 71, 72, 73, 74, 75, 76, 77, 78, 79, 80, 81, 82, 83, 84, 85, 14, 15, 86, 87, 88, 89, 90, 91, 92, 93, 94, 95, 96, 97, 98, 99, 26, 100, 101, 102, 103, 117, 118, 119, 120, 121, 122, 123, 124, 125, 126, 127, 128] (by decide +kernel) (by decide +kernel)
set_option maxRecDepth 20000 in
theorem gX9_behind_X2_yearsGoBy : GoodIn wsX9_behind (wsV RX9 181 RX2 yX2_yearsGoBy wsX2_yearsGoBy) := goodIn_app (goodIn_of _ (by decide +kernel)) ggX9_behind_X2_yearsGoBy
set_option maxRecDepth 20000 in
theorem ggX9_behind_X8_highAt : GoodIn wsX9_behind wsX8_highAt := goodIn_r _ [55, 21, 124, 125, 126, 127, 128] (by decide +kernel) (by decide +kernel)
set_option maxRecDepth 20000 in
theorem gX9_behind_X8_highAt : GoodIn wsX9_behind (wsV RX9 130 RX8 yX8_highAt wsX8_highAt) := goodIn_app (goodIn_of _ (by decide +kernel)) ggX9_behind_X8_highAt
set_option maxRecDepth 20000 in
theorem ggX9_hollowed_X9_isCell : GoodIn wsX9_hollowed wsX9_isCell := goodIn_r _ [8, 3, 9, 10, 11, 12, 13, 14, 15, 106, 107, 108, 109, 110, 111, 112, 113, 114, 115, 116, 117, 118, 119, 120, 121, 122, 123, 124] (by decide +kernel) (by decide +kernel)
set_option maxRecDepth 20000 in
theorem gX9_hollowed_X9_isCell : GoodIn wsX9_hollowed (wsV RX9 126 RX9 yX9_isCell wsX9_isCell) := goodIn_app (goodIn_of _ (by decide +kernel)) ggX9_hollowed_X9_isCell
set_option maxRecDepth 20000 in
theorem ggX9_hollowed_X8_copyFrom : GoodIn wsX9_hollowed wsX8_copyFrom := goodIn_r _ [20, 21, 22, 23, 24, 25, 26, 27, 28, 29, 125, 126, 127, 128, 129] (by decide +kernel) (by decide +kernel)
set_option maxRecDepth 20000 in
theorem gX9_hollowed_X8_copyFrom : GoodIn wsX9_hollowed (wsV RX9 195 RX8 yX8_copyFrom wsX8_copyFrom) := goodIn_app (goodIn_of _ (by decide +kernel)) ggX9_hollowed_X8_copyFrom
set_option maxRecDepth 20000 in
theorem ggX9_hollowed_X8_highAt : GoodIn wsX9_hollowed wsX8_highAt := goodIn_r _ [33, 21, 125, 126, 127, 128, 129] (by decide +kernel) (by decide +kernel)
set_option maxRecDepth 20000 in
theorem gX9_hollowed_X8_highAt : GoodIn wsX9_hollowed (wsV RX9 130 RX8 yX8_highAt wsX8_highAt) := goodIn_app (goodIn_of _ (by decide +kernel)) ggX9_hollowed_X8_highAt
set_option maxRecDepth 20000 in
theorem ggX9_hollowed_X9_isHollow : GoodIn wsX9_hollowed wsX9_isHollow := goodIn_r _ [36] (by decide +kernel) (by decide +kernel)
set_option maxRecDepth 20000 in
theorem gX9_hollowed_X9_isHollow : GoodIn wsX9_hollowed (va_wsS RX9 197 yX9_isHollow wsX9_isHollow) := goodIn_app (goodIn_of _ (by decide +kernel)) ggX9_hollowed_X9_isHollow
set_option maxRecDepth 20000 in
theorem ggX9_hollowed_X2_yearsGoBy : GoodIn wsX9_hollowed wsX2_yearsGoBy := goodIn_r _ [40, 41, 42, 43, 44, 12, 45, 46, 47, 48, 49, 19, 50, 29, 51, 52, 53, 54, 28, 55, 56, 57, 58, 59, 31, 32, 33, 21, 60, 61, 62, 63, 35, 7, 36, 64, 65, 66, 67, 68, 69, 70, 71, 72, 73, 74, 75, 76, 77, 78, 79, 80, 81, 82, 83, 84, 85, 86, 87, 14, 15, 88, 89, 90, 91, 92, 93, 94, 95, 96, 97, 98, 99, 100, 101, 26, 102, 103, 104, 105, 118, 119, 120, 121, 122, 123, 124, 125, 126, 127, 128, 129] (by decide +kernel) (by decide +kernel)
set_option maxRecDepth 20000 in
theorem gX9_hollowed_X2_yearsGoBy : GoodIn wsX9_hollowed (wsV RX9 181 RX2 yX2_yearsGoBy wsX2_yearsGoBy) := goodIn_app (goodIn_of _ (by decide +kernel)) ggX9_hollowed_X2_yearsGoBy
set_option maxRecDepth 20000 in
theorem ggX9_smooth_X9_isMaid : GoodIn wsX9_smooth wsX9_isMaid := goodIn_r _ [8, 2, 9, 10, 11, 12, 13, 14, 104, 105, 106, 107, 108, 109, 110, 111, 112, 113, 114, 115, 116, 117, 118, 119, 120, 121, 122] (by decide +kernel) (by decide +kernel)
set_option maxRecDepth 20000 in
theorem gX9_smooth_X9_isMaid : GoodIn wsX9_smooth (wsV RX9 147 RX9 yX9_isMaid wsX9_isMaid) := goodIn_app (goodIn_of _ (by decide +kernel)) ggX9_smooth_X9_isMaid
set_option maxRecDepth 20000 in
theorem ggX9_smooth_X9_isCell : GoodIn wsX9_smooth wsX9_isCell := goodIn_r _ [18, 2, 19, 20, 21, 12, 22, 23, 24, 104, 105, 106, 107, 108, 109, 110, 111, 112, 113, 114, 115, 116, 117, 118, 119, 120, 121, 122] (by decide +kernel) (by decide +kernel)
set_option maxRecDepth 20000 in
theorem gX9_smooth_X9_isCell : GoodIn wsX9_smooth (wsV RX9 126 RX9 yX9_isCell wsX9_isCell) := goodIn_app (goodIn_of _ (by decide +kernel)) ggX9_smooth_X9_isCell
set_option maxRecDepth 20000 in
theorem ggX9_smooth_X7_fewest : GoodIn wsX9_smooth wsX7_fewest := goodIn_r _ [29, 30, 31, 32, 33, 34, 35, 36, 37, 38, 39, 40, 41, 42, 43, 28, 44, 45, 46, 47, 48, 49, 50, 51, 52, 53, 54, 55, 56, 57, 58, 59, 20, 21, 12, 22, 23, 24, 60, 61, 62, 63, 64, 65, 66, 67, 68, 69, 70, 71, 72, 73, 74, 75, 76, 77, 78, 79, 80, 81, 82, 83, 84, 7, 85, 86, 87, 88, 89, 90, 91, 92, 93, 94, 95, 96, 97, 98, 99, 123, 124, 125, 126, 127, 128, 129, 116, 117, 118, 119, 120, 121, 122] (by decide +kernel) (by decide +kernel)
set_option maxRecDepth 20000 in
theorem gX9_smooth_X7_fewest : GoodIn wsX9_smooth (wsV RX9 200 RX7 yX7_fewest wsX7_fewest) := goodIn_app (goodIn_of _ (by decide +kernel)) ggX9_smooth_X7_fewest
set_option maxRecDepth 20000 in
theorem ggX9_smooth_X7_cellOfStroke : GoodIn wsX9_smooth wsX7_cellOfStroke := goodIn_r _ [103, 99, 128, 129] (by decide +kernel) (by decide +kernel)
set_option maxRecDepth 20000 in
theorem gX9_smooth_X7_cellOfStroke : GoodIn wsX9_smooth (wsV RX9 204 RX7 yX7_cellOfStroke wsX7_cellOfStroke) := goodIn_app (goodIn_of _ (by decide +kernel)) ggX9_smooth_X7_cellOfStroke
set_option maxRecDepth 20000 in
theorem ggX9_round_X9_isMaid : GoodIn wsX9_round wsX9_isMaid := goodIn_r _ [9, 4, 10, 11, 12, 13, 14, 15, 127, 128, 129, 130, 131, 132, 133, 134, 135, 136, 137, 138, 139, 140, 141, 142, 143, 144, 145] (by decide +kernel) (by decide +kernel)
set_option maxRecDepth 20000 in
theorem gX9_round_X9_isMaid : GoodIn wsX9_round (wsV RX9 147 RX9 yX9_isMaid wsX9_isMaid) := goodIn_app (goodIn_of _ (by decide +kernel)) ggX9_round_X9_isMaid
set_option maxRecDepth 20000 in
theorem ggX9_round_X8_leftTo : GoodIn wsX9_round wsX8_leftTo := goodIn_r _ [20, 21, 146, 147, 148, 149, 150] (by decide +kernel) (by decide +kernel)
set_option maxRecDepth 20000 in
theorem gX9_round_X8_leftTo : GoodIn wsX9_round (wsV RX9 156 RX8 yX8_leftTo wsX8_leftTo) := goodIn_app (goodIn_of _ (by decide +kernel)) ggX9_round_X8_leftTo
set_option maxRecDepth 20000 in
theorem ggX9_round_X8_copyFrom : GoodIn wsX9_round wsX8_copyFrom := goodIn_r _ [25, 26, 27, 28, 29, 30, 21, 31, 32, 33, 146, 147, 148, 149, 150] (by decide +kernel) (by decide +kernel)
set_option maxRecDepth 20000 in
theorem gX9_round_X8_copyFrom : GoodIn wsX9_round (wsV RX9 195 RX8 yX8_copyFrom wsX8_copyFrom) := goodIn_app (goodIn_of _ (by decide +kernel)) ggX9_round_X8_copyFrom
set_option maxRecDepth 20000 in
theorem ggX9_round_X4_least : GoodIn wsX9_round wsX4_least := goodIn_r _ [38, 39, 40, 41, 37, 42, 43, 44, 45, 46, 19, 47, 26, 48, 49, 50, 51, 52, 53, 28, 29, 30, 54, 55, 56, 57, 31, 58, 17, 18, 20, 21, 59, 60, 61, 13, 62, 63, 64, 65, 66, 67, 68, 69, 70, 71, 72, 73, 74, 75, 76, 77, 78, 79, 80, 81, 82, 83, 84, 85, 86, 87, 88, 8, 89, 90, 91, 92, 93, 94, 95, 96, 97, 98, 99, 100, 101, 102, 103, 104, 105, 106, 107, 108, 109, 110, 111, 112, 113, 114, 115, 116, 117, 118, 119, 120, 121, 122, 151, 152, 153, 146, 147, 148, 149, 150, 139, 140, 141, 142, 143, 144, 145] (by decide +kernel) (by decide +kernel)
set_option maxRecDepth 20000 in
theorem gX9_round_X4_least : GoodIn wsX9_round (wsV RX9 207 RX4 yX4_least wsX4_least) := goodIn_app (goodIn_of _ (by decide +kernel)) ggX9_round_X4_least
set_option maxRecDepth 20000 in
theorem ggX9_round_X4_cellOfStroke : GoodIn wsX9_round wsX4_cellOfStroke := goodIn_r _ [126, 52, 151, 152, 153] (by decide +kernel) (by decide +kernel)
set_option maxRecDepth 20000 in
theorem gX9_round_X4_cellOfStroke : GoodIn wsX9_round (wsV RX9 210 RX4 yX4_cellOfStroke wsX4_cellOfStroke) := goodIn_app (goodIn_of _ (by decide +kernel)) ggX9_round_X4_cellOfStroke
set_option maxRecDepth 20000 in
theorem ggX9_chairs_X5_most : GoodIn wsX9_chairs wsX5_most := goodIn_r _ [8, 9, 10, 11, 12, 13, 14, 15, 16, 17, 18, 19, 20, 21, 22, 23, 24, 25, 26, 27, 28, 29, 30, 7, 31, 32, 33, 34, 35, 36, 37, 38, 39, 40, 41, 42, 43, 44, 45, 46, 47, 48, 49, 50, 51, 52, 53, 66, 67, 68, 69, 70, 71, 72, 73, 74, 75, 76, 77, 78, 79] (by decide +kernel) (by decide +kernel)
set_option maxRecDepth 20000 in
theorem gX9_chairs_X5_most : GoodIn wsX9_chairs (wsV RX9 211 RX5 yX5_most wsX5_most) := goodIn_app (goodIn_of _ (by decide +kernel)) ggX9_chairs_X5_most
set_option maxRecDepth 20000 in
theorem ggX9_pardons_X2_caseCount : GoodIn wsX9_pardons wsX2_caseCount := goodIn_r _ [8, 9, 121, 122, 123, 124, 125, 126, 127] (by decide +kernel) (by decide +kernel)
set_option maxRecDepth 20000 in
theorem gX9_pardons_X2_caseCount : GoodIn wsX9_pardons (wsV RX9 215 RX2 yX2_caseCount wsX2_caseCount) := goodIn_app (goodIn_of _ (by decide +kernel)) ggX9_pardons_X2_caseCount
set_option maxRecDepth 20000 in
theorem ggX9_pardons_X8_isPardoned : GoodIn wsX9_pardons wsX8_isPardoned := goodIn_r _ [14, 15, 128, 129, 130, 131, 132] (by decide +kernel) (by decide +kernel)
set_option maxRecDepth 20000 in
theorem gX9_pardons_X8_isPardoned : GoodIn wsX9_pardons (wsV RX9 141 RX8 yX8_isPardoned wsX8_isPardoned) := goodIn_app (goodIn_of _ (by decide +kernel)) ggX9_pardons_X8_isPardoned
set_option maxRecDepth 20000 in
theorem ggX9_pardons_X8_copyFrom : GoodIn wsX9_pardons wsX8_copyFrom := goodIn_r _ [19, 20, 21, 22, 23, 24, 25, 26, 15, 27, 128, 129, 130, 131, 132] (by decide +kernel) (by decide +kernel)
set_option maxRecDepth 20000 in
theorem gX9_pardons_X8_copyFrom : GoodIn wsX9_pardons (wsV RX9 195 RX8 yX8_copyFrom wsX8_copyFrom) := goodIn_app (goodIn_of _ (by decide +kernel)) ggX9_pardons_X8_copyFrom
set_option maxRecDepth 20000 in
theorem ggX9_pardons_X8_letOff : GoodIn wsX9_pardons wsX8_letOff := goodIn_r _ [31, 15, 128, 129, 130, 131, 132] (by decide +kernel) (by decide +kernel)
set_option maxRecDepth 20000 in
theorem gX9_pardons_X8_letOff : GoodIn wsX9_pardons (wsV RX9 185 RX8 yX8_letOff wsX8_letOff) := goodIn_app (goodIn_of _ (by decide +kernel)) ggX9_pardons_X8_letOff
set_option maxRecDepth 20000 in
theorem ggX9_pardons_X2_yearsGoBy : GoodIn wsX9_pardons wsX2_yearsGoBy := goodIn_r _ [35, 9, 36, 37, 38, 7, 39, 40, 41, 42, 43, 13, 44, 27, 45, 11, 12, 14, 15, 46, 47, 48, 49, 50, 51, 52, 53, 20, 54, 55, 56, 57, 58, 59, 60, 61, 62, 63, 64, 65, 66, 67, 68, 69, 70, 71, 72, 73, 74, 75, 76, 77, 78, 79, 80, 81, 82, 83, 84, 85, 86, 87, 88, 89, 90, 91, 92, 93, 94, 95, 96, 97, 98, 99, 100, 25, 101, 102, 103, 104, 121, 122, 123, 124, 125, 126, 127, 128, 129, 130, 131, 132] (by decide +kernel) (by decide +kernel)
set_option maxRecDepth 20000 in
theorem gX9_pardons_X2_yearsGoBy : GoodIn wsX9_pardons (wsV RX9 181 RX2 yX2_yearsGoBy wsX2_yearsGoBy) := goodIn_app (goodIn_of _ (by decide +kernel)) ggX9_pardons_X2_yearsGoBy
set_option maxRecDepth 20000 in
theorem ggX9_pardons_X8_sum : GoodIn wsX9_pardons wsX8_sum := goodIn_r _ [108, 20, 128, 129, 130, 131, 132] (by decide +kernel) (by decide +kernel)
set_option maxRecDepth 20000 in
theorem gX9_pardons_X8_sum : GoodIn wsX9_pardons (wsV RX9 218 RX8 yX8_sum wsX8_sum) := goodIn_app (goodIn_of _ (by decide +kernel)) ggX9_pardons_X8_sum
set_option maxRecDepth 20000 in
theorem ggX9_see_X9_isCell : GoodIn wsX9_see wsX9_isCell := goodIn_r _ [6, 7, 8, 9, 10, 11, 12, 13, 14, 31, 32, 33, 34, 35, 36, 37, 38, 39, 40, 41, 42, 43, 44, 45, 46, 47, 48, 49] (by decide +kernel) (by decide +kernel)
set_option maxRecDepth 20000 in
theorem gX9_see_X9_isCell : GoodIn wsX9_see (wsV RX9 126 RX9 yX9_isCell wsX9_isCell) := goodIn_app (goodIn_of _ (by decide +kernel)) ggX9_see_X9_isCell
set_option maxRecDepth 20000 in
theorem ggX9_see_X6_isFull : GoodIn wsX9_see wsX6_isFull := goodIn_r _ [19, 20, 50, 51, 52] (by decide +kernel) (by decide +kernel)
set_option maxRecDepth 20000 in
theorem gX9_see_X6_isFull : GoodIn wsX9_see (wsV RX9 221 RX6 yX6_isFull wsX6_isFull) := goodIn_app (goodIn_of _ (by decide +kernel)) ggX9_see_X6_isFull
set_option maxRecDepth 20000 in
theorem ggX9_see_X6_add : GoodIn wsX9_see wsX6_add := goodIn_r _ [24, 20, 25, 26, 50, 51, 52] (by decide +kernel) (by decide +kernel)
set_option maxRecDepth 20000 in
theorem gX9_see_X6_add : GoodIn wsX9_see (wsV RX9 222 RX6 yX6_add wsX6_add) := goodIn_app (goodIn_of _ (by decide +kernel)) ggX9_see_X6_add
set_option maxRecDepth 20000 in
theorem ggX9_see_X6_size : GoodIn wsX9_see wsX6_size := goodIn_r _ [30, 20, 50, 51, 52] (by decide +kernel) (by decide +kernel)
set_option maxRecDepth 20000 in
theorem gX9_see_X6_size : GoodIn wsX9_see (wsV RX9 225 RX6 yX6_size wsX6_size) := goodIn_app (goodIn_of _ (by decide +kernel)) ggX9_see_X6_size
set_option maxRecDepth 20000 in
theorem ggX9_forget_X6_size : GoodIn wsX9_forget wsX6_size := goodIn_r _ [6, 7, 24, 25, 26] (by decide +kernel) (by decide +kernel)
set_option maxRecDepth 20000 in
theorem gX9_forget_X6_size : GoodIn wsX9_forget (wsV RX9 225 RX6 yX6_size wsX6_size) := goodIn_app (goodIn_of _ (by decide +kernel)) ggX9_forget_X6_size
set_option maxRecDepth 20000 in
theorem ggX9_forget_X6_clear : GoodIn wsX9_forget wsX6_clear := goodIn_r _ [11, 7, 24, 25, 26] (by decide +kernel) (by decide +kernel)
set_option maxRecDepth 20000 in
theorem gX9_forget_X6_clear : GoodIn wsX9_forget (wsV RX9 124 RX6 yX6_clear wsX6_clear) := goodIn_app (goodIn_of _ (by decide +kernel)) ggX9_forget_X6_clear
set_option maxRecDepth 20000 in
theorem ggX9_mind_X2_caseCount : GoodIn wsX9_mind wsX2_caseCount := goodIn_r _ [6, 7, 139, 140, 141, 142, 143, 144, 145] (by decide +kernel) (by decide +kernel)
set_option maxRecDepth 20000 in
theorem gX9_mind_X2_caseCount : GoodIn wsX9_mind (wsV RX9 215 RX2 yX2_caseCount wsX2_caseCount) := goodIn_app (goodIn_of _ (by decide +kernel)) ggX9_mind_X2_caseCount
set_option maxRecDepth 20000 in
theorem ggX9_mind_X9_wouldBeSeen : GoodIn wsX9_mind wsX9_wouldBeSeen := goodIn_r _ [12, 13, 14, 15, 16, 17, 5, 18, 19, 20, 21, 22, 23, 24, 25, 26, 27, 28, 29, 30, 31, 32, 33, 34, 35, 36, 37, 38, 39, 40, 41, 42, 43, 44, 45, 46, 47, 48, 49, 50, 51, 52, 53, 54, 55, 56, 57, 58, 59, 60, 61, 62, 2, 3, 4, 6, 7, 63, 64, 65, 66, 67, 68, 69, 70, 71, 72, 73, 74, 75, 76, 77, 78, 79, 80, 81, 82, 83, 84, 85, 86, 87, 88, 89, 90, 91, 92, 93, 94, 95, 96, 11, 97, 98, 99, 100, 101, 102, 103, 104, 105, 106, 107, 108, 109, 110, 111, 112, 113, 114, 115, 116, 117, 118, 119, 120, 121, 122, 123, 124, 125, 126, 127, 128, 129, 130, 131, 132, 133, 134, 135, 136, 137, 138, 139, 140, 141, 142, 143, 144, 145, 146, 147, 148, 149, 150, 151, 152, 153] (by decide +kernel) (by decide +kernel)
set_option maxRecDepth 20000 in
theorem gX9_mind_X9_wouldBeSeen : GoodIn wsX9_mind (wsV RX9 226 RX9 yX9_wouldBeSeen wsX9_wouldBeSeen) := goodIn_app (goodIn_of _ (by decide +kernel)) ggX9_mind_X9_wouldBeSeen
set_option maxRecDepth 20000 in
theorem ggX9_deep_X9_isCase : GoodIn wsX9_deep wsX9_isCase := goodIn_r _ [7, 1, 8, 9, 10, 11, 12, 13, 144, 145, 146, 147, 148, 149, 150, 151, 152, 153, 154, 155, 156, 157, 158, 159, 160, 161, 162] (by decide +kernel) (by decide +kernel)
set_option maxRecDepth 20000 in
theorem gX9_deep_X9_isCase : GoodIn wsX9_deep (wsV RX9 134 RX9 yX9_isCase wsX9_isCase) := goodIn_app (goodIn_of _ (by decide +kernel)) ggX9_deep_X9_isCase
set_option maxRecDepth 20000 in
theorem ggX9_deep_X2_caseCount : GoodIn wsX9_deep wsX2_caseCount := goodIn_r _ [12, 13, 156, 157, 158, 159, 160, 161, 162] (by decide +kernel) (by decide +kernel)
set_option maxRecDepth 20000 in
theorem gX9_deep_X2_caseCount : GoodIn wsX9_deep (wsV RX9 215 RX2 yX2_caseCount wsX2_caseCount) := goodIn_app (goodIn_of _ (by decide +kernel)) ggX9_deep_X2_caseCount
set_option maxRecDepth 20000 in
theorem ggX9_deep_X2_copyFrom : GoodIn wsX9_deep wsX2_copyFrom := goodIn_r _ [17, 18, 19, 20, 21, 22, 23, 24, 25, 26, 13, 27, 156, 157, 158, 159, 160, 161, 162] (by decide +kernel) (by decide +kernel)
set_option maxRecDepth 20000 in
theorem gX9_deep_X2_copyFrom : GoodIn wsX9_deep (wsV RX9 120 RX2 yX2_copyFrom wsX2_copyFrom) := goodIn_app (goodIn_of _ (by decide +kernel)) ggX9_deep_X2_copyFrom
set_option maxRecDepth 20000 in
theorem ggX9_deep_X2_setDepth : GoodIn wsX9_deep wsX2_setDepth := goodIn_r _ [31, 23, 156, 157, 158, 159, 160, 161, 162] (by decide +kernel) (by decide +kernel)
set_option maxRecDepth 20000 in
theorem gX9_deep_X2_setDepth : GoodIn wsX9_deep (wsV RX9 230 RX2 yX2_setDepth wsX2_setDepth) := goodIn_app (goodIn_of _ (by decide +kernel)) ggX9_deep_X2_setDepth
set_option maxRecDepth 20000 in
theorem ggX9_deep_X9_wouldBeSeen : GoodIn wsX9_deep wsX9_wouldBeSeen := goodIn_r _ [35, 36, 37, 38, 39, 40, 11, 41, 18, 27, 42, 43, 44, 45, 46, 47, 48, 49, 50, 51, 52, 53, 54, 55, 56, 57, 58, 59, 60, 61, 62, 63, 64, 65, 66, 67, 68, 69, 70, 24, 71, 72, 73, 74, 75, 76, 77, 78, 79, 80, 81, 82, 8, 9, 10, 12, 13, 83, 84, 85, 86, 87, 88, 89, 90, 91, 92, 93, 94, 23, 95, 96, 97, 98, 99, 100, 101, 102, 103, 104, 105, 106, 107, 108, 109, 110, 111, 112, 113, 114, 115, 6, 116, 117, 118, 119, 120, 121, 122, 123, 124, 125, 126, 127, 128, 129, 130, 26, 25, 131, 132, 133, 134, 135, 136, 137, 138, 139, 140, 141, 142, 143, 144, 145, 146, 147, 148, 149, 150, 151, 152, 153, 154, 155, 156, 157, 158, 159, 160, 161, 162, 163, 164, 165, 166, 167, 168, 169, 170] (by decide +kernel) (by decide +kernel)
set_option maxRecDepth 20000 in
theorem gX9_deep_X9_wouldBeSeen : GoodIn wsX9_deep (wsV RX9 226 RX9 yX9_wouldBeSeen wsX9_wouldBeSeen) := goodIn_app (goodIn_of _ (by decide +kernel)) ggX9_deep_X9_wouldBeSeen
set_option maxRecDepth 20000 in
theorem ggX9_slip_X9_isMaid : GoodIn wsX9_slip wsX9_isMaid := goodIn_r _ [7, 1, 8, 9, 10, 11, 12, 13, 51, 52, 53, 54, 55, 56, 57, 58, 59, 60, 61, 62, 63, 64, 65, 66, 67, 68, 69] (by decide +kernel) (by decide +kernel)
set_option maxRecDepth 20000 in
theorem gX9_slip_X9_isMaid : GoodIn wsX9_slip (wsV RX9 147 RX9 yX9_isMaid wsX9_isMaid) := goodIn_app (goodIn_of _ (by decide +kernel)) ggX9_slip_X9_isMaid
set_option maxRecDepth 20000 in
theorem ggX9_slip_X9_isCell : GoodIn wsX9_slip wsX9_isCell := goodIn_r _ [17, 1, 18, 19, 20, 11, 21, 22, 23, 51, 52, 53, 54, 55, 56, 57, 58, 59, 60, 61, 62, 63, 64, 65, 66, 67, 68, 69] (by decide +kernel) (by decide +kernel)
set_option maxRecDepth 20000 in
theorem gX9_slip_X9_isCell : GoodIn wsX9_slip (wsV RX9 126 RX9 yX9_isCell wsX9_isCell) := goodIn_app (goodIn_of _ (by decide +kernel)) ggX9_slip_X9_isCell
set_option maxRecDepth 20000 in
theorem ggX9_slip_X8_highAt : GoodIn wsX9_slip wsX8_highAt := goodIn_r _ [28, 29, 70, 71, 72, 73, 74] (by decide +kernel) (by decide +kernel)
set_option maxRecDepth 20000 in
theorem gX9_slip_X8_highAt : GoodIn wsX9_slip (wsV RX9 130 RX8 yX8_highAt wsX8_highAt) := goodIn_app (goodIn_of _ (by decide +kernel)) ggX9_slip_X8_highAt
set_option maxRecDepth 20000 in
theorem ggX9_slip_X9_smoothOutcomes : GoodIn wsX9_slip wsX9_smoothOutcomes := goodIn_r _ [32, 33, 34, 35, 36, 37, 38, 39, 11, 40, 41, 42, 43, 44, 45, 46, 6, 47, 30, 31, 63, 64, 65, 66, 67, 68, 69] (by decide +kernel) (by decide +kernel)
set_option maxRecDepth 20000 in
theorem gX9_slip_X9_smoothOutcomes : GoodIn wsX9_slip (va_wsS RX9 233 yX9_smoothOutcomes wsX9_smoothOutcomes) := goodIn_app (goodIn_of _ (by decide +kernel)) ggX9_slip_X9_smoothOutcomes
set_option maxRecDepth 20000 in
theorem ggX9_slip_X9_commonDivisor : GoodIn wsX9_slip wsX9_commonDivisor := goodIn_r _ [50] (by decide +kernel) (by decide +kernel)
set_option maxRecDepth 20000 in
theorem gX9_slip_X9_commonDivisor : GoodIn wsX9_slip (va_wsS RX9 237 yX9_commonDivisor wsX9_commonDivisor) := goodIn_app (goodIn_of _ (by decide +kernel)) ggX9_slip_X9_commonDivisor
set_option maxRecDepth 20000 in
theorem ggX9_evening_X8_copyFrom : GoodIn wsX9_evening wsX8_copyFrom := goodIn_r _ [7, 8, 9, 10, 11, 12, 13, 14, 15, 16, 183, 184, 185, 186, 187] (by decide +kernel) (by decide +kernel)
set_option maxRecDepth 20000 in
theorem gX9_evening_X8_copyFrom : GoodIn wsX9_evening (wsV RX9 195 RX8 yX8_copyFrom wsX8_copyFrom) := goodIn_app (goodIn_of _ (by decide +kernel)) ggX9_evening_X8_copyFrom
set_option maxRecDepth 20000 in
theorem ggX9_evening_X9_drawOf : GoodIn wsX9_evening wsX9_drawOf := goodIn_r _ [20, 21, 22, 23] (by decide +kernel) (by decide +kernel)
set_option maxRecDepth 20000 in
theorem gX9_evening_X9_drawOf : GoodIn wsX9_evening (va_wsS RX9 240 yX9_drawOf wsX9_drawOf) := goodIn_app (goodIn_of _ (by decide +kernel)) ggX9_evening_X9_drawOf
set_option maxRecDepth 20000 in
theorem ggX9_evening_X9_goOnByDraw : GoodIn wsX9_evening wsX9_goOnByDraw := goodIn_r _ [27, 28, 29, 30, 31, 6, 32, 16, 33, 34, 35, 36, 37, 38, 39, 40, 41, 42, 43, 44, 45, 46, 47, 48, 15, 49, 50, 51, 52, 53, 54, 55, 56, 8, 57, 58, 59, 60, 61, 19, 62, 63, 64, 65, 66, 67, 68, 69, 70, 71, 72, 73, 74, 75, 76, 77, 78, 79, 80, 81, 82, 83, 84, 85, 86, 87, 88, 89, 90, 91, 92, 93, 94, 95, 96, 97, 98, 99, 100, 101, 102, 13, 103, 104, 105, 106, 107, 108, 109, 110, 111, 112, 113, 114, 115, 116, 117, 118, 119, 120, 121, 122, 123, 124, 125, 126, 127, 128, 129, 130, 131, 132, 133, 134, 135, 136, 137, 138, 14, 139, 140, 141, 142, 143, 144, 145, 146, 147, 148, 149, 150, 151, 152, 153, 154, 155, 156, 157, 158, 159, 160, 161, 162, 171, 172, 173, 174, 175, 176, 177, 178, 179, 180, 181, 182, 183, 184, 185, 186, 187, 188, 189, 190, 191, 192, 193, 194] (by decide +kernel) (by decide +kernel)
set_option maxRecDepth 20000 in
theorem gX9_evening_X9_goOnByDraw : GoodIn wsX9_evening (wsV RX9 243 RX9 yX9_goOnByDraw wsX9_goOnByDraw) := goodIn_app (goodIn_of _ (by decide +kernel)) ggX9_evening_X9_goOnByDraw
set_option maxRecDepth 20000 in
theorem ggX9_evening_X8_sum : GoodIn wsX9_evening wsX8_sum := goodIn_r _ [166, 8, 183, 184, 185, 186, 187] (by decide +kernel) (by decide +kernel)
set_option maxRecDepth 20000 in
theorem gX9_evening_X8_sum : GoodIn wsX9_evening (wsV RX9 218 RX8 yX8_sum wsX8_sum) := goodIn_app (goodIn_of _ (by decide +kernel)) ggX9_evening_X8_sum
set_option maxRecDepth 20000 in
theorem ggX9_evening_X8_hollowCells : GoodIn wsX9_evening wsX8_hollowCells := goodIn_r _ [170, 8, 61, 19, 62, 183, 184, 185, 186, 187] (by decide +kernel) (by decide +kernel)
set_option maxRecDepth 20000 in
theorem gX9_evening_X8_hollowCells : GoodIn wsX9_evening (wsV RX9 246 RX8 yX8_hollowCells wsX8_hollowCells) := goodIn_app (goodIn_of _ (by decide +kernel)) ggX9_evening_X8_hollowCells
set_option maxRecDepth 20000 in
theorem ggX9_keep_X1_isFull : GoodIn wsX9_keep wsX1_isFull := goodIn_r _ [7, 8, 9, 53, 54] (by decide +kernel) (by decide +kernel)
set_option maxRecDepth 20000 in
theorem gX9_keep_X1_isFull : GoodIn wsX9_keep (wsV RX9 249 RX1 yX1_isFull wsX1_isFull) := goodIn_app (goodIn_of _ (by decide +kernel)) ggX9_keep_X1_isFull
set_option maxRecDepth 20000 in
theorem ggX9_keep_X1_push : GoodIn wsX9_keep wsX1_push := goodIn_r _ [13, 8, 14, 4, 5, 6, 7, 9, 15, 16, 17, 18, 19, 20, 21, 22, 23, 24, 25, 26, 27, 28, 29, 30, 31, 32, 33, 34, 35, 36, 53, 54, 55, 56, 57, 58, 59] (by decide +kernel) (by decide +kernel)
set_option maxRecDepth 20000 in
theorem gX9_keep_X1_push : GoodIn wsX9_keep (wsV RX9 171 RX1 yX1_push wsX1_push) := goodIn_app (goodIn_of _ (by decide +kernel)) ggX9_keep_X1_push
set_option maxRecDepth 20000 in
theorem ggX9_keep_X1_size : GoodIn wsX9_keep wsX1_size := goodIn_r _ [40, 8, 53, 54] (by decide +kernel) (by decide +kernel)
set_option maxRecDepth 20000 in
theorem gX9_keep_X1_size : GoodIn wsX9_keep (wsV RX9 191 RX1 yX1_size wsX1_size) := goodIn_app (goodIn_of _ (by decide +kernel)) ggX9_keep_X1_size
set_option maxRecDepth 20000 in
theorem ggX9_back_X1_size : GoodIn wsX9_back wsX1_size := goodIn_r _ [8, 9, 49, 50] (by decide +kernel) (by decide +kernel)
set_option maxRecDepth 20000 in
theorem gX9_back_X1_size : GoodIn wsX9_back (wsV RX9 191 RX1 yX1_size wsX1_size) := goodIn_app (goodIn_of _ (by decide +kernel)) ggX9_back_X1_size
set_option maxRecDepth 20000 in
theorem ggX9_back_X1_popInto : GoodIn wsX9_back wsX1_popInto := goodIn_r _ [13, 9, 14, 15, 16, 7, 17, 18, 19, 20, 21, 22, 23, 24, 25, 26, 27, 28, 29, 30, 31, 32, 49, 50, 51, 52, 53, 54, 55] (by decide +kernel) (by decide +kernel)
set_option maxRecDepth 20000 in
theorem gX9_back_X1_popInto : GoodIn wsX9_back (wsV RX9 192 RX1 yX1_popInto wsX1_popInto) := goodIn_app (goodIn_of _ (by decide +kernel)) ggX9_back_X1_popInto
set_option maxRecDepth 20000 in
theorem ggX9_back_X1_clear : GoodIn wsX9_back wsX1_clear := goodIn_r _ [36, 9, 49, 50] (by decide +kernel) (by decide +kernel)
set_option maxRecDepth 20000 in
theorem gX9_back_X1_clear : GoodIn wsX9_back (wsV RX9 125 RX1 yX1_clear wsX1_clear) := goodIn_app (goodIn_of _ (by decide +kernel)) ggX9_back_X1_clear
set_option maxRecDepth 20000 in
theorem ggX9_count_X2_cellCount : GoodIn wsX9_count wsX2_cellCount := goodIn_r _ [11, 12, 13, 97, 98, 99, 100, 101, 102, 103] (by decide +kernel) (by decide +kernel)
set_option maxRecDepth 20000 in
theorem gX9_count_X2_cellCount : GoodIn wsX9_count (wsV RX9 117 RX2 yX2_cellCount wsX2_cellCount) := goodIn_app (goodIn_of _ (by decide +kernel)) ggX9_count_X2_cellCount
set_option maxRecDepth 20000 in
theorem ggX9_count_X2_cellsInRow : GoodIn wsX9_count wsX2_cellsInRow := goodIn_r _ [17, 13, 97, 98, 99, 100, 101, 102, 103] (by decide +kernel) (by decide +kernel)
set_option maxRecDepth 20000 in
theorem gX9_count_X2_cellsInRow : GoodIn wsX9_count (wsV RX9 250 RX2 yX2_cellsInRow wsX2_cellsInRow) := goodIn_app (goodIn_of _ (by decide +kernel)) ggX9_count_X2_cellsInRow
set_option maxRecDepth 20000 in
theorem ggX9_count_X2_caseCount : GoodIn wsX9_count wsX2_caseCount := goodIn_r _ [21, 22, 97, 98, 99, 100, 101, 102, 103] (by decide +kernel) (by decide +kernel)
set_option maxRecDepth 20000 in
theorem gX9_count_X2_caseCount : GoodIn wsX9_count (wsV RX9 215 RX2 yX2_caseCount wsX2_caseCount) := goodIn_app (goodIn_of _ (by decide +kernel)) ggX9_count_X2_caseCount
set_option maxRecDepth 20000 in
theorem ggX9_count_X2_maidCount : GoodIn wsX9_count wsX2_maidCount := goodIn_r _ [26, 27, 97, 98, 99, 100, 101, 102, 103] (by decide +kernel) (by decide +kernel)
set_option maxRecDepth 20000 in
theorem gX9_count_X2_maidCount : GoodIn wsX9_count (wsV RX9 253 RX2 yX2_maidCount wsX2_maidCount) := goodIn_app (goodIn_of _ (by decide +kernel)) ggX9_count_X2_maidCount
set_option maxRecDepth 20000 in
theorem ggX9_count_X8_yearIs : GoodIn wsX9_count wsX8_yearIs := goodIn_r _ [32, 33, 104, 105, 106, 107, 108] (by decide +kernel) (by decide +kernel)
set_option maxRecDepth 20000 in
theorem gX9_count_X8_yearIs : GoodIn wsX9_count (wsV RX9 178 RX8 yX8_yearIs wsX8_yearIs) := goodIn_app (goodIn_of _ (by decide +kernel)) ggX9_count_X8_yearIs
set_option maxRecDepth 20000 in
theorem ggX9_count_X8_sum : GoodIn wsX9_count wsX8_sum := goodIn_r _ [37, 38, 104, 105, 106, 107, 108] (by decide +kernel) (by decide +kernel)
set_option maxRecDepth 20000 in
theorem gX9_count_X8_sum : GoodIn wsX9_count (wsV RX9 218 RX8 yX8_sum wsX8_sum) := goodIn_app (goodIn_of _ (by decide +kernel)) ggX9_count_X8_sum
set_option maxRecDepth 20000 in
theorem ggX9_count_X8_hollowCells : GoodIn wsX9_count wsX8_hollowCells := goodIn_r _ [42, 38, 43, 44, 45, 104, 105, 106, 107, 108] (by decide +kernel) (by decide +kernel)
set_option maxRecDepth 20000 in
theorem gX9_count_X8_hollowCells : GoodIn wsX9_count (wsV RX9 246 RX8 yX8_hollowCells wsX8_hollowCells) := goodIn_app (goodIn_of _ (by decide +kernel)) ggX9_count_X8_hollowCells
set_option maxRecDepth 20000 in
theorem ggX9_count_X9_casesNotPardoned : GoodIn wsX9_count wsX9_casesNotPardoned := goodIn_r _ [49, 1, 2, 18, 19, 20, 10, 21, 22, 50, 51, 52, 31, 53, 54, 55, 56, 57, 58, 59, 60, 61, 85, 86, 87, 88, 89, 90, 91, 92, 93, 94, 95, 96, 97, 98, 99, 100, 101, 102, 103, 104, 105, 106, 107, 108] (by decide +kernel) (by decide +kernel)
set_option maxRecDepth 20000 in
theorem gX9_count_X9_casesNotPardoned : GoodIn wsX9_count (wsV RX9 188 RX9 yX9_casesNotPardoned wsX9_casesNotPardoned) := goodIn_app (goodIn_of _ (by decide +kernel)) ggX9_count_X9_casesNotPardoned
set_option maxRecDepth 20000 in
theorem ggX9_count_X8_leftToAll : GoodIn wsX9_count wsX8_leftToAll := goodIn_r _ [65, 66, 104, 105, 106, 107, 108] (by decide +kernel) (by decide +kernel)
set_option maxRecDepth 20000 in
theorem gX9_count_X8_leftToAll : GoodIn wsX9_count (wsV RX9 256 RX8 yX8_leftToAll wsX8_leftToAll) := goodIn_app (goodIn_of _ (by decide +kernel)) ggX9_count_X8_leftToAll
set_option maxRecDepth 20000 in
theorem ggX9_count_X6_size : GoodIn wsX9_count wsX6_size := goodIn_r _ [71, 72, 109, 110, 111] (by decide +kernel) (by decide +kernel)
set_option maxRecDepth 20000 in
theorem gX9_count_X6_size : GoodIn wsX9_count (wsV RX9 225 RX6 yX6_size wsX6_size) := goodIn_app (goodIn_of _ (by decide +kernel)) ggX9_count_X6_size
set_option maxRecDepth 20000 in
theorem ggX9_count_X1_size : GoodIn wsX9_count wsX1_size := goodIn_r _ [77, 78, 112, 113] (by decide +kernel) (by decide +kernel)
set_option maxRecDepth 20000 in
theorem gX9_count_X1_size : GoodIn wsX9_count (wsV RX9 191 RX1 yX1_size wsX1_size) := goodIn_app (goodIn_of _ (by decide +kernel)) ggX9_count_X1_size
set_option maxRecDepth 20000 in
theorem ggX9_count_X0_size : GoodIn wsX9_count wsX0_size := goodIn_r _ [83, 84, 114, 115] (by decide +kernel) (by decide +kernel)
set_option maxRecDepth 20000 in
theorem gX9_count_X0_size : GoodIn wsX9_count (wsV RX9 114 RX0 yX0_size wsX0_size) := goodIn_app (goodIn_of _ (by decide +kernel)) ggX9_count_X0_size
set_option maxRecDepth 20000 in
theorem ggX9_isCell_X2_cellCount : GoodIn wsX9_isCell wsX2_cellCount := goodIn_r _ [6, 7, 8, 21, 22, 23, 24, 25, 26, 27] (by decide +kernel) (by decide +kernel)
set_option maxRecDepth 20000 in
theorem gX9_isCell_X2_cellCount : GoodIn wsX9_isCell (wsV RX9 117 RX2 yX2_cellCount wsX2_cellCount) := goodIn_app (goodIn_of _ (by decide +kernel)) ggX9_isCell_X2_cellCount
set_option maxRecDepth 20000 in
theorem ggX9_isCase_X2_caseCount : GoodIn wsX9_isCase wsX2_caseCount := goodIn_r _ [6, 7, 20, 21, 22, 23, 24, 25, 26] (by decide +kernel) (by decide +kernel)
set_option maxRecDepth 20000 in
theorem gX9_isCase_X2_caseCount : GoodIn wsX9_isCase (wsV RX9 215 RX2 yX2_caseCount wsX2_caseCount) := goodIn_app (goodIn_of _ (by decide +kernel)) ggX9_isCase_X2_caseCount
set_option maxRecDepth 20000 in
theorem ggX9_isMaid_X2_maidCount : GoodIn wsX9_isMaid wsX2_maidCount := goodIn_r _ [6, 7, 20, 21, 22, 23, 24, 25, 26] (by decide +kernel) (by decide +kernel)
set_option maxRecDepth 20000 in
theorem gX9_isMaid_X2_maidCount : GoodIn wsX9_isMaid (wsV RX9 253 RX2 yX2_maidCount wsX2_maidCount) := goodIn_app (goodIn_of _ (by decide +kernel)) ggX9_isMaid_X2_maidCount
set_option maxRecDepth 20000 in
theorem ggX9_casesNotPardoned_X2_caseCount : GoodIn wsX9_casesNotPardoned wsX2_caseCount := goodIn_r _ [7, 8, 34, 35, 36, 37, 38, 39, 40] (by decide +kernel) (by decide +kernel)
set_option maxRecDepth 20000 in
theorem gX9_casesNotPardoned_X2_caseCount : GoodIn wsX9_casesNotPardoned (wsV RX9 215 RX2 yX2_caseCount wsX2_caseCount) := goodIn_app (goodIn_of _ (by decide +kernel)) ggX9_casesNotPardoned_X2_caseCount
set_option maxRecDepth 20000 in
theorem ggX9_casesNotPardoned_X8_pardonedCases : GoodIn wsX9_casesNotPardoned wsX8_pardonedCases := goodIn_r _ [13, 14, 15, 16, 17, 18, 19, 20, 21, 41, 42, 43, 44, 45] (by decide +kernel) (by decide +kernel)
set_option maxRecDepth 20000 in
theorem gX9_casesNotPardoned_X8_pardonedCases : GoodIn wsX9_casesNotPardoned (wsV RX9 259 RX8 yX8_pardonedCases wsX8_pardonedCases) := goodIn_app (goodIn_of _ (by decide +kernel)) ggX9_casesNotPardoned_X8_pardonedCases
set_option maxRecDepth 20000 in
theorem ggX9_wouldRaise_X8_isPardoned : GoodIn wsX9_wouldRaise wsX8_isPardoned := goodIn_r _ [11, 12, 44, 45, 46, 47, 48] (by decide +kernel) (by decide +kernel)
set_option maxRecDepth 20000 in
theorem gX9_wouldRaise_X8_isPardoned : GoodIn wsX9_wouldRaise (wsV RX9 141 RX8 yX8_isPardoned wsX8_isPardoned) := goodIn_app (goodIn_of _ (by decide +kernel)) ggX9_wouldRaise_X8_isPardoned
set_option maxRecDepth 20000 in
theorem ggX9_wouldRaise_X2_ofCase : GoodIn wsX9_wouldRaise wsX2_ofCase := goodIn_r _ [17, 18, 49, 50, 51, 52, 53, 54, 55] (by decide +kernel) (by decide +kernel)
set_option maxRecDepth 20000 in
theorem gX9_wouldRaise_X2_ofCase : GoodIn wsX9_wouldRaise (wsV RX9 137 RX2 yX2_ofCase wsX2_ofCase) := goodIn_app (goodIn_of _ (by decide +kernel)) ggX9_wouldRaise_X2_ofCase
set_option maxRecDepth 20000 in
theorem ggX9_wouldRaise_X8_highAt : GoodIn wsX9_wouldRaise wsX8_highAt := goodIn_r _ [22, 23, 44, 45, 46, 47, 48] (by decide +kernel) (by decide +kernel)
set_option maxRecDepth 20000 in
theorem gX9_wouldRaise_X8_highAt : GoodIn wsX9_wouldRaise (wsV RX9 130 RX8 yX8_highAt wsX8_highAt) := goodIn_app (goodIn_of _ (by decide +kernel)) ggX9_wouldRaise_X8_highAt
set_option maxRecDepth 20000 in
theorem ggX9_wouldRaise_X2_raisesOwn : GoodIn wsX9_wouldRaise wsX2_raisesOwn := goodIn_r _ [27, 28, 14, 15, 16, 17, 18, 29, 30, 31, 49, 50, 51, 52, 53, 54, 55] (by decide +kernel) (by decide +kernel)
set_option maxRecDepth 20000 in
theorem gX9_wouldRaise_X2_raisesOwn : GoodIn wsX9_wouldRaise (wsV RX9 262 RX2 yX2_raisesOwn wsX2_raisesOwn) := goodIn_app (goodIn_of _ (by decide +kernel)) ggX9_wouldRaise_X2_raisesOwn
set_option maxRecDepth 20000 in
theorem ggX9_wouldBeSeen_X2_layOut : GoodIn wsX9_wouldBeSeen wsX2_layOut := goodIn_r _ [7, 8, 9, 10, 11, 12, 13, 14, 15, 16, 17, 18, 19, 20, 21, 22, 23, 24, 25, 26, 27, 28, 29, 30, 31, 32, 33, 34, 35, 36, 37, 6, 38, 39, 40, 41, 42, 43, 44, 45, 46, 47, 48, 49, 50, 51, 134, 135, 136, 137, 138, 139, 140, 141, 142, 143, 144, 145] (by decide +kernel) (by decide +kernel)
set_option maxRecDepth 20000 in
theorem gX9_wouldBeSeen_X2_layOut : GoodIn wsX9_wouldBeSeen (wsV RX9 103 RX2 yX2_layOut wsX2_layOut) := goodIn_app (goodIn_of _ (by decide +kernel)) ggX9_wouldBeSeen_X2_layOut
set_option maxRecDepth 20000 in
theorem ggX9_wouldBeSeen_X2_caseCount : GoodIn wsX9_wouldBeSeen wsX2_caseCount := goodIn_r _ [55, 56, 134, 135, 136, 137, 138, 139, 140] (by decide +kernel) (by decide +kernel)
set_option maxRecDepth 20000 in
theorem gX9_wouldBeSeen_X2_caseCount : GoodIn wsX9_wouldBeSeen (wsV RX9 215 RX2 yX2_caseCount wsX2_caseCount) := goodIn_app (goodIn_of _ (by decide +kernel)) ggX9_wouldBeSeen_X2_caseCount
set_option maxRecDepth 20000 in
theorem ggX9_wouldBeSeen_X8_letOff : GoodIn wsX9_wouldBeSeen wsX8_letOff := goodIn_r _ [60, 18, 141, 142, 143, 144, 145] (by decide +kernel) (by decide +kernel)
set_option maxRecDepth 20000 in
theorem gX9_wouldBeSeen_X8_letOff : GoodIn wsX9_wouldBeSeen (wsV RX9 185 RX8 yX8_letOff wsX8_letOff) := goodIn_app (goodIn_of _ (by decide +kernel)) ggX9_wouldBeSeen_X8_letOff
set_option maxRecDepth 20000 in
theorem ggX9_wouldBeSeen_X2_yearsGoBy : GoodIn wsX9_wouldBeSeen wsX2_yearsGoBy := goodIn_r _ [64, 56, 65, 66, 67, 6, 68, 69, 70, 71, 72, 13, 73, 19, 74, 75, 76, 77, 18, 78, 79, 80, 81, 82, 83, 84, 85, 15, 86, 87, 88, 89, 90, 91, 92, 93, 94, 95, 96, 97, 98, 25, 26, 27, 28, 29, 30, 31, 32, 33, 34, 99, 100, 101, 102, 103, 104, 105, 106, 107, 108, 44, 45, 46, 47, 9, 35, 36, 37, 38, 39, 48, 49, 50, 51, 16, 109, 110, 111, 112, 134, 135, 136, 137, 138, 139, 140, 141, 142, 143, 144, 145] (by decide +kernel) (by decide +kernel)
set_option maxRecDepth 20000 in
theorem gX9_wouldBeSeen_X2_yearsGoBy : GoodIn wsX9_wouldBeSeen (wsV RX9 181 RX2 yX2_yearsGoBy wsX2_yearsGoBy) := goodIn_app (goodIn_of _ (by decide +kernel)) ggX9_wouldBeSeen_X2_yearsGoBy
set_option maxRecDepth 20000 in
theorem ggX9_wouldBeSeen_X6_agreeWith : GoodIn wsX9_wouldBeSeen wsX6_agreeWith := goodIn_r _ [117, 118, 119, 120, 121, 83, 84, 13, 85, 15, 146, 147, 148, 141, 142, 143, 144, 145] (by decide +kernel) (by decide +kernel)
set_option maxRecDepth 20000 in
theorem gX9_wouldBeSeen_X6_agreeWith : GoodIn wsX9_wouldBeSeen (wsV RX9 265 RX6 yX6_agreeWith wsX6_agreeWith) := goodIn_app (goodIn_of _ (by decide +kernel)) ggX9_wouldBeSeen_X6_agreeWith
set_option maxRecDepth 20000 in
theorem ggX9_smoothOutcomes_X2_takes : GoodIn wsX9_smoothOutcomes wsX2_takes := goodIn_r _ [9, 10, 11, 12, 8, 13, 14, 15, 16, 17, 20, 21, 22, 23, 24, 25, 26] (by decide +kernel) (by decide +kernel)
set_option maxRecDepth 20000 in
theorem gX9_smoothOutcomes_X2_takes : GoodIn wsX9_smoothOutcomes (wsV RX9 159 RX2 yX2_takes wsX2_takes) := goodIn_app (goodIn_of _ (by decide +kernel)) ggX9_smoothOutcomes_X2_takes
set_option maxRecDepth 20000 in
theorem ggX9_smoothOutcomes_X9_smoothOutcomes : GoodIn wsX9_smoothOutcomes wsX9_smoothOutcomes := goodIn_r _ [0, 1, 2, 3, 4, 5, 6, 7, 8, 9, 10, 11, 12, 13, 14, 15, 16, 17, 18, 19, 20, 21, 22, 23, 24, 25, 26] (by decide +kernel) (by decide +kernel)
set_option maxRecDepth 20000 in
theorem gX9_smoothOutcomes_X9_smoothOutcomes : GoodIn wsX9_smoothOutcomes (va_wsS RX9 233 yX9_smoothOutcomes wsX9_smoothOutcomes) := goodIn_app (goodIn_of _ (by decide +kernel)) ggX9_smoothOutcomes_X9_smoothOutcomes
set_option maxRecDepth 20000 in
theorem ggX9_goOnByDraw_X8_yearIs : GoodIn wsX9_goOnByDraw wsX8_yearIs := goodIn_r _ [6, 7, 155, 156, 157, 158, 159] (by decide +kernel) (by decide +kernel)
set_option maxRecDepth 20000 in
theorem gX9_goOnByDraw_X8_yearIs : GoodIn wsX9_goOnByDraw (wsV RX9 178 RX8 yX8_yearIs wsX8_yearIs) := goodIn_app (goodIn_of _ (by decide +kernel)) ggX9_goOnByDraw_X8_yearIs
set_option maxRecDepth 20000 in
theorem ggX9_goOnByDraw_X2_yearsGoBy : GoodIn wsX9_goOnByDraw wsX2_yearsGoBy := goodIn_r _ [12, 13, 14, 15, 16, 11, 17, 18, 19, 3, 4, 5, 6, 7, 20, 21, 22, 23, 24, 25, 26, 27, 28, 29, 30, 31, 32, 33, 34, 35, 36, 37, 38, 39, 40, 41, 42, 43, 44, 45, 46, 47, 48, 49, 50, 51, 52, 53, 54, 55, 56, 57, 58, 59, 60, 61, 62, 63, 64, 65, 66, 67, 68, 69, 70, 71, 72, 73, 74, 75, 76, 77, 78, 79, 80, 81, 82, 83, 84, 85, 160, 161, 162, 163, 164, 165, 166, 155, 156, 157, 158, 159] (by decide +kernel) (by decide +kernel)
set_option maxRecDepth 20000 in
theorem gX9_goOnByDraw_X2_yearsGoBy : GoodIn wsX9_goOnByDraw (wsV RX9 181 RX2 yX2_yearsGoBy wsX2_yearsGoBy) := goodIn_app (goodIn_of _ (by decide +kernel)) ggX9_goOnByDraw_X2_yearsGoBy
set_option maxRecDepth 20000 in
theorem ggX9_goOnByDraw_X2_caseCount : GoodIn wsX9_goOnByDraw wsX2_caseCount := goodIn_r _ [89, 13, 160, 161, 162, 163, 164, 165, 166] (by decide +kernel) (by decide +kernel)
set_option maxRecDepth 20000 in
theorem gX9_goOnByDraw_X2_caseCount : GoodIn wsX9_goOnByDraw (wsV RX9 215 RX2 yX2_caseCount wsX2_caseCount) := goodIn_app (goodIn_of _ (by decide +kernel)) ggX9_goOnByDraw_X2_caseCount
set_option maxRecDepth 20000 in
theorem ggX9_goOnByDraw_X8_letOff : GoodIn wsX9_goOnByDraw wsX8_letOff := goodIn_r _ [93, 24, 155, 156, 157, 158, 159] (by decide +kernel) (by decide +kernel)
set_option maxRecDepth 20000 in
theorem gX9_goOnByDraw_X8_letOff : GoodIn wsX9_goOnByDraw (wsV RX9 185 RX8 yX8_letOff wsX8_letOff) := goodIn_app (goodIn_of _ (by decide +kernel)) ggX9_goOnByDraw_X8_letOff
set_option maxRecDepth 20000 in
theorem ggX9_goOnByDraw_X2_maidCount : GoodIn wsX9_goOnByDraw wsX2_maidCount := goodIn_r _ [97, 71, 160, 161, 162, 163, 164, 165, 166] (by decide +kernel) (by decide +kernel)
set_option maxRecDepth 20000 in
theorem gX9_goOnByDraw_X2_maidCount : GoodIn wsX9_goOnByDraw (wsV RX9 253 RX2 yX2_maidCount wsX2_maidCount) := goodIn_app (goodIn_of _ (by decide +kernel)) ggX9_goOnByDraw_X2_maidCount
set_option maxRecDepth 20000 in
theorem ggX9_goOnByDraw_X2_cellCount : GoodIn wsX9_goOnByDraw wsX2_cellCount := goodIn_r _ [101, 65, 66, 160, 161, 162, 163, 164, 165, 166] (by decide +kernel) (by decide +kernel)
set_option maxRecDepth 20000 in
theorem gX9_goOnByDraw_X2_cellCount : GoodIn wsX9_goOnByDraw (wsV RX9 117 RX2 yX2_cellCount wsX2_cellCount) := goodIn_app (goodIn_of _ (by decide +kernel)) ggX9_goOnByDraw_X2_cellCount
set_option maxRecDepth 20000 in
theorem ggX9_goOnByDraw_X9_strikeIfShe : GoodIn wsX9_goOnByDraw wsX9_strikeIfShe := goodIn_r _ [105, 1, 106, 107, 108, 11, 109, 110, 111, 112, 5, 113, 81, 114, 115, 116, 117, 118, 119, 120, 121, 122, 61, 62, 63, 64, 65, 66, 123, 124, 125, 126, 29, 30, 31, 32, 33, 127, 128, 129, 130, 72, 73, 74, 75, 76, 38, 39, 40, 131, 132, 133, 134, 45, 46, 47, 48, 49, 50, 51, 52, 53, 54, 55, 56, 57, 58, 59, 60, 135, 136, 137, 138, 77, 78, 79, 80, 139, 140, 141, 142, 143, 144, 145, 146, 147, 148, 149, 150, 151, 152, 153, 154, 155, 156, 157, 158, 159, 160, 161, 162, 163, 164, 165, 166] (by decide +kernel) (by decide +kernel)
set_option maxRecDepth 20000 in
theorem gX9_goOnByDraw_X9_strikeIfShe : GoodIn wsX9_goOnByDraw (wsV RX9 278 RX9 yX9_strikeIfShe wsX9_strikeIfShe) := goodIn_app (goodIn_of _ (by decide +kernel)) ggX9_goOnByDraw_X9_strikeIfShe
set_option maxRecDepth 20000 in
theorem ggX9_strikeIfShe_X2_canStrike : GoodIn wsX9_strikeIfShe wsX2_canStrike := goodIn_r _ [6, 7, 8, 9, 10, 11, 12, 13, 14, 15, 16, 17, 18, 19, 20, 5, 21, 22, 23, 24, 25, 26, 27, 93, 94, 95, 96, 97, 98, 99, 100, 101, 102, 103, 104] (by decide +kernel) (by decide +kernel)
set_option maxRecDepth 20000 in
theorem gX9_strikeIfShe_X2_canStrike : GoodIn wsX9_strikeIfShe (wsV RX9 167 RX2 yX2_canStrike wsX2_canStrike) := goodIn_app (goodIn_of _ (by decide +kernel)) ggX9_strikeIfShe_X2_canStrike
set_option maxRecDepth 20000 in
theorem ggX9_strikeIfShe_X2_strike : GoodIn wsX9_strikeIfShe wsX2_strike := goodIn_r _ [31, 32, 33, 34, 10, 35, 36, 37, 38, 39, 5, 40, 41, 42, 43, 44, 45, 46, 47, 48, 49, 50, 51, 52, 53, 54, 55, 56, 57, 58, 59, 60, 61, 62, 63, 64, 65, 66, 67, 68, 22, 23, 24, 25, 26, 27, 69, 70, 71, 72, 7, 8, 9, 11, 12, 73, 74, 75, 76, 77, 78, 79, 80, 17, 93, 94, 95, 96, 97, 98, 99, 100, 101, 102, 103, 104] (by decide +kernel) (by decide +kernel)
set_option maxRecDepth 20000 in
theorem gX9_strikeIfShe_X2_strike : GoodIn wsX9_strikeIfShe (wsV RX9 174 RX2 yX2_strike wsX2_strike) := goodIn_app (goodIn_of _ (by decide +kernel)) ggX9_strikeIfShe_X2_strike
set_option maxRecDepth 20000 in
theorem ggX10_init_X10_clears : GoodIn wsX10_init wsX10_clears := goodIn_r _ [40, 35, 34, 41, 42, 13, 63, 64, 65, 66, 67, 68, 69, 70, 71, 72, 73, 74, 75, 76, 77, 78, 79, 80, 81, 82, 83, 84, 85, 86, 87, 88, 89, 90, 91, 92, 93, 94, 95, 96, 97, 98, 99, 100, 101, 102, 103, 104, 105, 106] (by decide +kernel) (by decide +kernel)
set_option maxRecDepth 20000 in
theorem gX10_init_X10_clears : GoodIn wsX10_init (wsV RX10 95 RX10 yX10_clears wsX10_clears) := goodIn_app (goodIn_of _ (by decide +kernel)) ggX10_init_X10_clears
set_option maxRecDepth 20000 in
theorem ggX10_init_X10_lies : GoodIn wsX10_init wsX10_lies := goodIn_r _ [46, 14, 41, 15, 16, 17, 63, 64, 65, 66, 67, 68, 69, 70, 71, 72, 73, 74, 75, 76, 77, 78, 79, 80, 81, 82, 83, 84, 85, 86, 87, 88, 89, 90, 91, 92, 93, 94, 95, 96, 97, 98, 99, 100, 101, 102, 103, 104, 105, 106] (by decide +kernel) (by decide +kernel)
set_option maxRecDepth 20000 in
theorem gX10_init_X10_lies : GoodIn wsX10_init (wsV RX10 105 RX10 yX10_lies wsX10_lies) := goodIn_app (goodIn_of _ (by decide +kernel)) ggX10_init_X10_lies
set_option maxRecDepth 20000 in
theorem ggX10_init_X10_comes : GoodIn wsX10_init wsX10_comes := goodIn_r _ [50, 18, 42, 19, 20, 21, 63, 64, 65, 66, 67, 68, 69, 70, 71, 72, 73, 74, 75, 76, 77, 78, 79, 80, 81, 82, 83, 84, 85, 86, 87, 88, 89, 90, 91, 92, 93, 94, 95, 96, 97, 98, 99, 100, 101, 102, 103, 104, 105, 106] (by decide +kernel) (by decide +kernel)
set_option maxRecDepth 20000 in
theorem gX10_init_X10_comes : GoodIn wsX10_init (wsV RX10 109 RX10 yX10_comes wsX10_comes) := goodIn_app (goodIn_of _ (by decide +kernel)) ggX10_init_X10_comes
set_option maxRecDepth 20000 in
theorem ggX10_init_X10_settles : GoodIn wsX10_init wsX10_settles := goodIn_r _ [54, 35, 55, 34, 56, 41, 57, 42, 58, 5, 13, 6, 14, 7, 15, 8, 16, 9, 17, 10, 18, 11, 19, 12, 20, 22, 21, 59, 60, 61, 39, 62, 63, 64, 65, 66, 67, 68, 69, 70, 71, 72, 73, 74, 75, 76, 77, 78, 79, 80, 81, 82, 83, 84, 85, 86, 87, 88, 89, 90, 91, 92, 93, 94, 95, 96, 97, 98, 99, 100, 101, 102, 103, 104, 105, 106] (by decide +kernel) (by decide +kernel)
set_option maxRecDepth 20000 in
theorem gX10_init_X10_settles : GoodIn wsX10_init (wsV RX10 112 RX10 yX10_settles wsX10_settles) := goodIn_app (goodIn_of _ (by decide +kernel)) ggX10_init_X10_settles
set_option maxRecDepth 20000 in
theorem ggX10_settles_X10_begins : GoodIn wsX10_settles wsX10_begins := goodIn_r _ [31, 25, 9, 8, 23, 32, 33, 34, 35, 36, 37, 38, 39, 40, 41, 42, 43, 44, 45, 46, 47, 48, 49, 50, 51, 52, 53, 54, 55, 56, 57, 58, 59, 60, 61, 62, 63, 64, 65, 66, 67, 68, 69, 70, 71, 72, 73, 74, 75] (by decide +kernel) (by decide +kernel)
set_option maxRecDepth 20000 in
theorem gX10_settles_X10_begins : GoodIn wsX10_settles (wsV RX10 133 RX10 yX10_begins wsX10_begins) := goodIn_app (goodIn_of _ (by decide +kernel)) ggX10_settles_X10_begins
set_option maxRecDepth 20000 in
theorem ggX10_isCell_X10_in : GoodIn wsX10_isCell wsX10_in := goodIn_r _ [5] (by decide +kernel) (by decide +kernel)
set_option maxRecDepth 20000 in
theorem gX10_isCell_X10_in : GoodIn wsX10_isCell (va_wsS RX10 137 yX10_in wsX10_in) := goodIn_app (goodIn_of _ (by decide +kernel)) ggX10_isCell_X10_in
set_option maxRecDepth 20000 in
theorem ggX10_isCase_X10_in : GoodIn wsX10_isCase wsX10_in := goodIn_r _ [5] (by decide +kernel) (by decide +kernel)
set_option maxRecDepth 20000 in
theorem gX10_isCase_X10_in : GoodIn wsX10_isCase (va_wsS RX10 137 yX10_in wsX10_in) := goodIn_app (goodIn_of _ (by decide +kernel)) ggX10_isCase_X10_in
set_option maxRecDepth 20000 in
theorem ggX10_isMaid_X10_in : GoodIn wsX10_isMaid wsX10_in := goodIn_r _ [5] (by decide +kernel) (by decide +kernel)
set_option maxRecDepth 20000 in
theorem gX10_isMaid_X10_in : GoodIn wsX10_isMaid (va_wsS RX10 137 yX10_in wsX10_in) := goodIn_app (goodIn_of _ (by decide +kernel)) ggX10_isMaid_X10_in
set_option maxRecDepth 20000 in
theorem ggX10_write_X10_in : GoodIn wsX10_write wsX10_in := goodIn_r _ [8] (by decide +kernel) (by decide +kernel)
set_option maxRecDepth 20000 in
theorem gX10_write_X10_in : GoodIn wsX10_write (va_wsS RX10 137 yX10_in wsX10_in) := goodIn_app (goodIn_of _ (by decide +kernel)) ggX10_write_X10_in
set_option maxRecDepth 20000 in
theorem ggX10_number_X10_next : GoodIn wsX10_number wsX10_next := goodIn_r _ [9, 3, 10, 11, 15, 16, 17, 18, 19, 20, 21, 22, 23, 24, 25, 26, 27, 28, 29, 30, 31, 32, 33, 34, 35, 36, 37, 38, 39, 40, 41, 42, 43, 44, 45, 46, 47, 48, 49, 50, 51, 52, 53, 54, 55, 56, 57, 58] (by decide +kernel) (by decide +kernel)
set_option maxRecDepth 20000 in
theorem gX10_number_X10_next : GoodIn wsX10_number (wsV RX10 151 RX10 yX10_next wsX10_next) := goodIn_app (goodIn_of _ (by decide +kernel)) ggX10_number_X10_next
set_option maxRecDepth 20000 in
theorem ggX10_number_X10_in : GoodIn wsX10_number wsX10_in := goodIn_r _ [14] (by decide +kernel) (by decide +kernel)
set_option maxRecDepth 20000 in
theorem gX10_number_X10_in : GoodIn wsX10_number (va_wsS RX10 137 yX10_in wsX10_in) := goodIn_app (goodIn_of _ (by decide +kernel)) ggX10_number_X10_in
set_option maxRecDepth 20000 in
theorem ggX10_more_X10_next : GoodIn wsX10_more wsX10_next := goodIn_r _ [7, 2, 8, 9, 19, 20, 21, 22, 23, 24, 25, 26, 27, 28, 29, 30, 31, 32, 33, 34, 35, 36, 37, 38, 39, 40, 41, 42, 43, 44, 45, 46, 47, 48, 49, 50, 51, 52, 53, 54, 55, 56, 57, 58, 59, 60, 61, 62] (by decide +kernel) (by decide +kernel)
set_option maxRecDepth 20000 in
theorem gX10_more_X10_next : GoodIn wsX10_more (wsV RX10 151 RX10 yX10_next wsX10_next) := goodIn_app (goodIn_of _ (by decide +kernel)) ggX10_more_X10_next
set_option maxRecDepth 20000 in
theorem ggX10_more_X10_number : GoodIn wsX10_more wsX10_number := goodIn_r _ [13, 14, 15, 2, 1, 3, 4, 5, 6, 7, 8, 9, 16, 17, 18, 19, 20, 21, 22, 23, 24, 25, 26, 27, 28, 29, 30, 31, 32, 33, 34, 35, 36, 37, 38, 39, 40, 41, 42, 43, 44, 45, 46, 47, 48, 49, 50, 51, 52, 53, 54, 55, 56, 57, 58, 59, 60, 61, 62] (by decide +kernel) (by decide +kernel)
set_option maxRecDepth 20000 in
theorem gX10_more_X10_number : GoodIn wsX10_more (wsV RX10 163 RX10 yX10_number wsX10_number) := goodIn_app (goodIn_of _ (by decide +kernel)) ggX10_more_X10_number
set_option maxRecDepth 20000 in
theorem ggX10_rowItem_X10_next : GoodIn wsX10_rowItem wsX10_next := goodIn_r _ [13, 7, 14, 15, 22, 23, 24, 25, 26, 27, 28, 29, 30, 31, 32, 33, 34, 35, 36, 37, 38, 39, 40, 41, 42, 43, 44, 45, 46, 47, 48, 49, 50, 51, 52, 53, 54, 55, 56, 57, 58, 59, 60, 61, 62, 63, 64, 65] (by decide +kernel) (by decide +kernel)
set_option maxRecDepth 20000 in
theorem gX10_rowItem_X10_next : GoodIn wsX10_rowItem (wsV RX10 151 RX10 yX10_next wsX10_next) := goodIn_app (goodIn_of _ (by decide +kernel)) ggX10_rowItem_X10_next
set_option maxRecDepth 20000 in
theorem ggX10_rowItem_X10_in : GoodIn wsX10_rowItem wsX10_in := goodIn_r _ [18] (by decide +kernel) (by decide +kernel)
set_option maxRecDepth 20000 in
theorem gX10_rowItem_X10_in : GoodIn wsX10_rowItem (va_wsS RX10 137 yX10_in wsX10_in) := goodIn_app (goodIn_of _ (by decide +kernel)) ggX10_rowItem_X10_in
set_option maxRecDepth 20000 in
theorem ggX10_rowItem_X10_smaller : GoodIn wsX10_rowItem wsX10_smaller := goodIn_r _ [21] (by decide +kernel) (by decide +kernel)
set_option maxRecDepth 20000 in
theorem gX10_rowItem_X10_smaller : GoodIn wsX10_rowItem (va_wsS RX10 167 yX10_smaller wsX10_smaller) := goodIn_app (goodIn_of _ (by decide +kernel)) ggX10_rowItem_X10_smaller
set_option maxRecDepth 20000 in
theorem ggX10_caseItem_X10_number : GoodIn wsX10_caseItem wsX10_number := goodIn_r _ [8, 9, 10, 11, 2, 12, 13, 14, 7, 15, 16, 17, 18, 19, 20, 33, 34, 35, 36, 37, 38, 39, 40, 41, 42, 43, 44, 45, 46, 47, 48, 49, 50, 51, 52, 53, 54, 55, 56, 57, 58, 59, 60, 61, 62, 63, 64, 65, 66, 67, 68, 69, 70, 71, 72, 73, 74, 75, 76] (by decide +kernel) (by decide +kernel)
set_option maxRecDepth 20000 in
theorem gX10_caseItem_X10_number : GoodIn wsX10_caseItem (wsV RX10 163 RX10 yX10_number wsX10_number) := goodIn_app (goodIn_of _ (by decide +kernel)) ggX10_caseItem_X10_number
set_option maxRecDepth 20000 in
theorem ggX10_caseItem_X10_more : GoodIn wsX10_caseItem wsX10_more := goodIn_r _ [24, 2, 11, 12, 13, 14, 7, 15, 16, 17, 4, 5, 6, 8, 9, 10, 18, 19, 20, 33, 34, 35, 36, 37, 38, 39, 40, 41, 42, 43, 44, 45, 46, 47, 48, 49, 50, 51, 52, 53, 54, 55, 56, 57, 58, 59, 60, 61, 62, 63, 64, 65, 66, 67, 68, 69, 70, 71, 72, 73, 74, 75, 76] (by decide +kernel) (by decide +kernel)
set_option maxRecDepth 20000 in
theorem gX10_caseItem_X10_more : GoodIn wsX10_caseItem (wsV RX10 172 RX10 yX10_more wsX10_more) := goodIn_app (goodIn_of _ (by decide +kernel)) ggX10_caseItem_X10_more
set_option maxRecDepth 20000 in
theorem ggX10_caseItem_X10_lies : GoodIn wsX10_caseItem wsX10_lies := goodIn_r _ [28, 29, 1, 30, 31, 32, 33, 34, 35, 36, 37, 38, 39, 40, 41, 42, 43, 44, 45, 46, 47, 48, 49, 50, 51, 52, 53, 54, 55, 56, 57, 58, 59, 60, 61, 62, 63, 64, 65, 66, 67, 68, 69, 70, 71, 72, 73, 74, 75, 76] (by decide +kernel) (by decide +kernel)
set_option maxRecDepth 20000 in
theorem gX10_caseItem_X10_lies : GoodIn wsX10_caseItem (wsV RX10 105 RX10 yX10_lies wsX10_lies) := goodIn_app (goodIn_of _ (by decide +kernel)) ggX10_caseItem_X10_lies
set_option maxRecDepth 20000 in
theorem ggX10_maidItem_X10_number : GoodIn wsX10_maidItem wsX10_number := goodIn_r _ [8, 9, 10, 11, 2, 12, 13, 14, 7, 15, 16, 17, 18, 19, 20, 33, 34, 35, 36, 37, 38, 39, 40, 41, 42, 43, 44, 45, 46, 47, 48, 49, 50, 51, 52, 53, 54, 55, 56, 57, 58, 59, 60, 61, 62, 63, 64, 65, 66, 67, 68, 69, 70, 71, 72, 73, 74, 75, 76] (by decide +kernel) (by decide +kernel)
set_option maxRecDepth 20000 in
theorem gX10_maidItem_X10_number : GoodIn wsX10_maidItem (wsV RX10 163 RX10 yX10_number wsX10_number) := goodIn_app (goodIn_of _ (by decide +kernel)) ggX10_maidItem_X10_number
set_option maxRecDepth 20000 in
theorem ggX10_maidItem_X10_more : GoodIn wsX10_maidItem wsX10_more := goodIn_r _ [24, 2, 11, 12, 13, 14, 7, 15, 16, 17, 4, 5, 6, 8, 9, 10, 18, 19, 20, 33, 34, 35, 36, 37, 38, 39, 40, 41, 42, 43, 44, 45, 46, 47, 48, 49, 50, 51, 52, 53, 54, 55, 56, 57, 58, 59, 60, 61, 62, 63, 64, 65, 66, 67, 68, 69, 70, 71, 72, 73, 74, 75, 76] (by decide +kernel) (by decide +kernel)
set_option maxRecDepth 20000 in
theorem gX10_maidItem_X10_more : GoodIn wsX10_maidItem (wsV RX10 172 RX10 yX10_more wsX10_more) := goodIn_app (goodIn_of _ (by decide +kernel)) ggX10_maidItem_X10_more
set_option maxRecDepth 20000 in
theorem ggX10_maidItem_X10_comes : GoodIn wsX10_maidItem wsX10_comes := goodIn_r _ [28, 29, 1, 30, 31, 32, 33, 34, 35, 36, 37, 38, 39, 40, 41, 42, 43, 44, 45, 46, 47, 48, 49, 50, 51, 52, 53, 54, 55, 56, 57, 58, 59, 60, 61, 62, 63, 64, 65, 66, 67, 68, 69, 70, 71, 72, 73, 74, 75, 76] (by decide +kernel) (by decide +kernel)
set_option maxRecDepth 20000 in
theorem gX10_maidItem_X10_comes : GoodIn wsX10_maidItem (wsV RX10 109 RX10 yX10_comes wsX10_comes) := goodIn_app (goodIn_of _ (by decide +kernel)) ggX10_maidItem_X10_comes
set_option maxRecDepth 20000 in
theorem ggX10_item_X10_rowItem : GoodIn wsX10_item wsX10_rowItem := goodIn_r _ [6, 7, 8, 1, 9, 10, 11, 12, 13, 14, 15, 16, 5, 17, 18, 19, 20, 21, 22, 23, 24, 25, 60, 61, 62, 63, 64, 65, 66, 67, 68, 69, 70, 71, 72, 73, 74, 75, 76, 77, 78, 79, 80, 81, 82, 83, 84, 85, 86, 87, 88, 89, 90, 91, 92, 93, 94, 95, 96, 97, 98, 99, 100, 101, 102, 103] (by decide +kernel) (by decide +kernel)
set_option maxRecDepth 20000 in
theorem gX10_item_X10_rowItem : GoodIn wsX10_item (wsV RX10 175 RX10 yX10_rowItem wsX10_rowItem) := goodIn_app (goodIn_of _ (by decide +kernel)) ggX10_item_X10_rowItem
set_option maxRecDepth 20000 in
theorem ggX10_item_X10_caseItem : GoodIn wsX10_item wsX10_caseItem := goodIn_r _ [29, 30, 1, 8, 31, 32, 33, 5, 34, 9, 10, 12, 14, 15, 16, 17, 18, 19, 20, 21, 22, 35, 36, 37, 38, 39, 40, 41, 42, 43, 44, 45, 46, 60, 61, 62, 63, 64, 65, 66, 67, 68, 69, 70, 71, 72, 73, 74, 75, 76, 77, 78, 79, 80, 81, 82, 83, 84, 85, 86, 87, 88, 89, 90, 91, 92, 93, 94, 95, 96, 97, 98, 99, 100, 101, 102, 103] (by decide +kernel) (by decide +kernel)
set_option maxRecDepth 20000 in
theorem gX10_item_X10_caseItem : GoodIn wsX10_item (wsV RX10 178 RX10 yX10_caseItem wsX10_caseItem) := goodIn_app (goodIn_of _ (by decide +kernel)) ggX10_item_X10_caseItem
set_option maxRecDepth 20000 in
theorem ggX10_item_X10_maidItem : GoodIn wsX10_item wsX10_maidItem := goodIn_r _ [50, 51, 1, 8, 31, 32, 33, 5, 34, 9, 10, 12, 14, 15, 16, 17, 18, 19, 20, 21, 22, 35, 36, 37, 38, 52, 53, 54, 55, 56, 57, 58, 59, 60, 61, 62, 63, 64, 65, 66, 67, 68, 69, 70, 71, 72, 73, 74, 75, 76, 77, 78, 79, 80, 81, 82, 83, 84, 85, 86, 87, 88, 89, 90, 91, 92, 93, 94, 95, 96, 97, 98, 99, 100, 101, 102, 103] (by decide +kernel) (by decide +kernel)
set_option maxRecDepth 20000 in
theorem gX10_item_X10_maidItem : GoodIn wsX10_item (wsV RX10 181 RX10 yX10_maidItem wsX10_maidItem) := goodIn_app (goodIn_of _ (by decide +kernel)) ggX10_item_X10_maidItem
set_option maxRecDepth 20000 in
theorem ggX10_reads_X10_clears : GoodIn wsX10_reads wsX10_clears := goodIn_r _ [9, 10, 11, 12, 13, 14, 69, 70, 71, 72, 73, 74, 75, 76, 77, 78, 79, 80, 81, 82, 83, 84, 85, 86, 87, 88, 89, 90, 91, 92, 93, 94, 95, 96, 97, 98, 99, 100, 101, 102, 103, 104, 105, 106, 107, 108, 109, 110, 111, 112] (by decide +kernel) (by decide +kernel)
set_option maxRecDepth 20000 in
theorem gX10_reads_X10_clears : GoodIn wsX10_reads (wsV RX10 95 RX10 yX10_clears wsX10_clears) := goodIn_app (goodIn_of _ (by decide +kernel)) ggX10_reads_X10_clears
set_option maxRecDepth 20000 in
theorem ggX10_reads_X10_next : GoodIn wsX10_reads wsX10_next := goodIn_r _ [18, 1, 3, 19, 69, 70, 71, 72, 73, 74, 75, 76, 77, 78, 79, 80, 81, 82, 83, 84, 85, 86, 87, 88, 89, 90, 91, 92, 93, 94, 95, 96, 97, 98, 99, 100, 101, 102, 103, 104, 105, 106, 107, 108, 109, 110, 111, 112] (by decide +kernel) (by decide +kernel)
set_option maxRecDepth 20000 in
theorem gX10_reads_X10_next : GoodIn wsX10_reads (wsV RX10 151 RX10 yX10_next wsX10_next) := goodIn_app (goodIn_of _ (by decide +kernel)) ggX10_reads_X10_next
set_option maxRecDepth 20000 in
theorem ggX10_reads_X10_item : GoodIn wsX10_reads wsX10_item := goodIn_r _ [23, 2, 24, 25, 26, 8, 27, 11, 10, 28, 29, 14, 1, 30, 15, 16, 17, 18, 3, 19, 31, 32, 33, 34, 35, 36, 37, 38, 39, 40, 12, 41, 42, 43, 44, 45, 46, 47, 48, 49, 50, 51, 52, 53, 54, 55, 56, 57, 58, 59, 60, 13, 61, 62, 63, 64, 65, 66, 67, 68, 69, 70, 71, 72, 73, 74, 75, 76, 77, 78, 79, 80, 81, 82, 83, 84, 85, 86, 87, 88, 89, 90, 91, 92, 93, 94, 95, 96, 97, 98, 99, 100, 101, 102, 103, 104, 105, 106, 107, 108, 109, 110, 111, 112] (by decide +kernel) (by decide +kernel)
set_option maxRecDepth 20000 in
theorem gX10_reads_X10_item : GoodIn wsX10_reads (wsV RX10 187 RX10 yX10_item wsX10_item) := goodIn_app (goodIn_of _ (by decide +kernel)) ggX10_reads_X10_item
set_option maxRecDepth 20000 in
theorem ggX10_fault_X10_reads : GoodIn wsX10_fault wsX10_reads := goodIn_r _ [6, 7, 8, 9, 1, 10, 11, 12, 5, 13, 14, 15, 16, 17, 18, 19, 20, 21, 22, 23, 24, 25, 26, 27, 28, 29, 30, 31, 32, 33, 34, 35, 36, 37, 38, 39, 40, 41, 42, 43, 44, 45, 46, 47, 48, 49, 50, 51, 52, 53, 54, 55, 56, 57, 58, 59, 60, 61, 62, 63, 64, 65, 66, 67, 68, 69, 70, 71, 72, 73, 74, 75, 76, 77, 78, 79, 80, 81, 82, 83, 84, 85, 86, 87, 88, 89, 90, 91, 92, 93, 94, 95, 96, 97, 98, 99, 100, 101, 102, 103, 104, 105, 106, 107, 108, 109, 110, 111, 112, 113, 114, 115, 116] (by decide +kernel) (by decide +kernel)
set_option maxRecDepth 20000 in
theorem gX10_fault_X10_reads : GoodIn wsX10_fault (wsV RX10 190 RX10 yX10_reads wsX10_reads) := goodIn_app (goodIn_of _ (by decide +kernel)) ggX10_fault_X10_reads
set_option maxRecDepth 20000 in
theorem ggX10_lay_X10_reads : GoodIn wsX10_lay wsX10_reads := goodIn_r _ [10, 11, 12, 13, 14, 15, 16, 17, 9, 18, 1, 19, 20, 21, 22, 23, 24, 25, 26, 27, 28, 29, 30, 31, 32, 33, 34, 35, 36, 37, 38, 39, 40, 41, 42, 43, 44, 45, 46, 47, 48, 49, 50, 51, 52, 53, 54, 55, 56, 57, 58, 59, 60, 61, 62, 63, 64, 65, 66, 67, 68, 69, 70, 71, 72, 73, 74, 75, 76, 97, 98, 99, 100, 101, 102, 103, 104, 105, 106, 107, 108, 109, 110, 111, 112, 113, 114, 115, 116, 117, 118, 119, 120, 121, 122, 123, 124, 125, 126, 127, 128, 129, 130, 131, 132, 133, 134, 135, 136, 137, 138, 139, 140] (by decide +kernel) (by decide +kernel)
set_option maxRecDepth 20000 in
theorem gX10_lay_X10_reads : GoodIn wsX10_lay (wsV RX10 190 RX10 yX10_reads wsX10_reads) := goodIn_app (goodIn_of _ (by decide +kernel)) ggX10_lay_X10_reads
set_option maxRecDepth 20000 in
theorem ggX10_lay_X10_settles : GoodIn wsX10_lay wsX10_settles := goodIn_r _ [80, 1, 5, 19, 81, 20, 82, 21, 83, 84, 22, 85, 61, 86, 62, 87, 63, 88, 64, 89, 73, 90, 74, 91, 75, 92, 76, 93, 94, 95, 9, 96, 97, 98, 99, 100, 101, 102, 103, 104, 105, 106, 107, 108, 109, 110, 111, 112, 113, 114, 115, 116, 117, 118, 119, 120, 121, 122, 123, 124, 125, 126, 127, 128, 129, 130, 131, 132, 133, 134, 135, 136, 137, 138, 139, 140] (by decide +kernel) (by decide +kernel)
set_option maxRecDepth 20000 in
theorem gX10_lay_X10_settles : GoodIn wsX10_lay (wsV RX10 112 RX10 yX10_settles wsX10_settles) := goodIn_app (goodIn_of _ (by decide +kernel)) ggX10_lay_X10_settles
set_option maxRecDepth 20000 in
theorem ggX10_high_X10_isCell : GoodIn wsX10_high wsX10_isCell := goodIn_r _ [6, 7, 8, 9, 5, 10, 11, 12, 13, 14, 15, 16, 17, 18, 19, 20, 21, 22, 23, 24, 25, 26, 27, 28, 29, 30, 31, 32, 33, 34, 35, 36, 37, 38, 39, 40, 41, 42, 43, 44, 45, 46, 47, 48, 49, 50, 51, 52, 53, 54] (by decide +kernel) (by decide +kernel)
set_option maxRecDepth 20000 in
theorem gX10_high_X10_isCell : GoodIn wsX10_high (wsV RX10 203 RX10 yX10_isCell wsX10_isCell) := goodIn_app (goodIn_of _ (by decide +kernel)) ggX10_high_X10_isCell
set_option maxRecDepth 20000 in
theorem ggX10_raises_X10_smaller : GoodIn wsX10_raises wsX10_smaller := goodIn_r _ [5] (by decide +kernel) (by decide +kernel)
set_option maxRecDepth 20000 in
theorem gX10_raises_X10_smaller : GoodIn wsX10_raises (va_wsS RX10 167 yX10_smaller wsX10_smaller) := goodIn_app (goodIn_of _ (by decide +kernel)) ggX10_raises_X10_smaller
set_option maxRecDepth 20000 in
theorem ggX10_comesUp_X10_own : GoodIn wsX10_comesUp wsX10_own := goodIn_r _ [9, 3, 2, 10, 1, 27, 28, 29, 30, 31, 32, 33, 34, 35, 36, 37, 38, 39, 40, 41, 42, 43, 44, 45, 46, 47, 48, 49, 50, 51, 52, 53, 54, 55, 56, 57, 58, 59, 60, 61, 62, 63, 64, 65, 66, 67, 68, 69, 70] (by decide +kernel) (by decide +kernel)
set_option maxRecDepth 20000 in
theorem gX10_comesUp_X10_own : GoodIn wsX10_comesUp (wsV RX10 207 RX10 yX10_own wsX10_own) := goodIn_app (goodIn_of _ (by decide +kernel)) ggX10_comesUp_X10_own
set_option maxRecDepth 20000 in
theorem ggX10_comesUp_X10_raises : GoodIn wsX10_comesUp wsX10_raises := goodIn_r _ [14, 10, 15, 16, 8, 17, 27, 28, 29, 30, 31, 32, 33, 34, 35, 36, 37, 38, 39, 40, 41, 42, 43, 44, 45, 46, 47, 48, 49, 50, 51, 52, 53, 54, 55, 56, 57, 58, 59, 60, 61, 62, 63, 64, 65, 66, 67, 68, 69, 70] (by decide +kernel) (by decide +kernel)
set_option maxRecDepth 20000 in
theorem gX10_comesUp_X10_raises : GoodIn wsX10_comesUp (wsV RX10 210 RX10 yX10_raises wsX10_raises) := goodIn_app (goodIn_of _ (by decide +kernel)) ggX10_comesUp_X10_raises
set_option maxRecDepth 20000 in
theorem ggX10_comesUp_X10_hasBehind : GoodIn wsX10_comesUp wsX10_hasBehind := goodIn_r _ [21, 22, 27, 28, 29, 30, 31, 32, 33, 34, 35, 36, 37, 38, 39, 40, 41, 42, 43, 44, 45, 46, 47, 48, 49, 50, 51, 52, 53, 54, 55, 56, 57, 58, 59, 60, 61, 62, 63, 64, 65, 66, 67, 68, 69, 70] (by decide +kernel) (by decide +kernel)
set_option maxRecDepth 20000 in
theorem gX10_comesUp_X10_hasBehind : GoodIn wsX10_comesUp (wsV RX10 214 RX10 yX10_hasBehind wsX10_hasBehind) := goodIn_app (goodIn_of _ (by decide +kernel)) ggX10_comesUp_X10_hasBehind
set_option maxRecDepth 20000 in
theorem ggX10_comesUp_X10_isNext : GoodIn wsX10_comesUp wsX10_isNext := goodIn_r _ [26, 22, 27, 28, 29, 30, 31, 32, 33, 34, 35, 36, 37, 38, 39, 40, 41, 42, 43, 44, 45, 46, 47, 48, 49, 50, 51, 52, 53, 54, 55, 56, 57, 58, 59, 60, 61, 62, 63, 64, 65, 66, 67, 68, 69, 70] (by decide +kernel) (by decide +kernel)
set_option maxRecDepth 20000 in
theorem gX10_comesUp_X10_isNext : GoodIn wsX10_comesUp (wsV RX10 217 RX10 yX10_isNext wsX10_isNext) := goodIn_app (goodIn_of _ (by decide +kernel)) ggX10_comesUp_X10_isNext
set_option maxRecDepth 20000 in
theorem ggX10_goes_X10_has : GoodIn wsX10_goes wsX10_has := goodIn_r _ [9] (by decide +kernel) (by decide +kernel)
set_option maxRecDepth 20000 in
theorem gX10_goes_X10_has : GoodIn wsX10_goes (va_wsS RX10 221 yX10_has wsX10_has) := goodIn_app (goodIn_of _ (by decide +kernel)) ggX10_goes_X10_has
set_option maxRecDepth 20000 in
theorem ggX10_goes_X10_comesUp : GoodIn wsX10_goes wsX10_comesUp := goodIn_r _ [13, 14, 15, 16, 17, 18, 19, 20, 8, 21, 3, 22, 23, 24, 25, 26, 27, 28, 29, 30, 31, 32, 33, 34, 35, 36, 37, 38, 39, 40, 41, 42, 43, 44, 45, 46, 47, 48, 49, 50, 51, 52, 53, 54, 55, 56, 57, 58, 59, 60, 61, 62, 63, 64, 65, 66, 67, 68, 69, 70, 71, 72, 73, 74, 75, 76, 77, 78, 79, 80, 81] (by decide +kernel) (by decide +kernel)
set_option maxRecDepth 20000 in
theorem gX10_goes_X10_comesUp : GoodIn wsX10_goes (wsV RX10 224 RX10 yX10_comesUp wsX10_comesUp) := goodIn_app (goodIn_of _ (by decide +kernel)) ggX10_goes_X10_comesUp
set_option maxRecDepth 20000 in
theorem ggX10_takes_X10_smaller : GoodIn wsX10_takes wsX10_smaller := goodIn_r _ [6] (by decide +kernel) (by decide +kernel)
set_option maxRecDepth 20000 in
theorem gX10_takes_X10_smaller : GoodIn wsX10_takes (va_wsS RX10 167 yX10_smaller wsX10_smaller) := goodIn_app (goodIn_of _ (by decide +kernel)) ggX10_takes_X10_smaller
set_option maxRecDepth 20000 in
theorem ggX10_strikes_X10_takes : GoodIn wsX10_strikes wsX10_takes := goodIn_r _ [8, 3, 2, 9, 10, 7, 11, 20, 21, 22, 23, 24, 25, 26, 27, 28, 29, 30, 31, 32, 33, 34, 35, 36, 37, 38, 39, 40, 41, 42, 43, 44, 45, 46, 47, 48, 49, 50, 51, 52, 53, 54, 55, 56, 57, 58, 59, 60, 61, 62, 63] (by decide +kernel) (by decide +kernel)
set_option maxRecDepth 20000 in
theorem gX10_strikes_X10_takes : GoodIn wsX10_strikes (wsV RX10 228 RX10 yX10_takes wsX10_takes) := goodIn_app (goodIn_of _ (by decide +kernel)) ggX10_strikes_X10_takes
set_option maxRecDepth 20000 in
theorem ggX10_strikes_X10_hasBehind : GoodIn wsX10_strikes wsX10_hasBehind := goodIn_r _ [15, 16, 20, 21, 22, 23, 24, 25, 26, 27, 28, 29, 30, 31, 32, 33, 34, 35, 36, 37, 38, 39, 40, 41, 42, 43, 44, 45, 46, 47, 48, 49, 50, 51, 52, 53, 54, 55, 56, 57, 58, 59, 60, 61, 62, 63] (by decide +kernel) (by decide +kernel)
set_option maxRecDepth 20000 in
theorem gX10_strikes_X10_hasBehind : GoodIn wsX10_strikes (wsV RX10 214 RX10 yX10_hasBehind wsX10_hasBehind) := goodIn_app (goodIn_of _ (by decide +kernel)) ggX10_strikes_X10_hasBehind
set_option maxRecDepth 20000 in
theorem ggX10_strikes_X10_larger : GoodIn wsX10_strikes wsX10_larger := goodIn_r _ [19] (by decide +kernel) (by decide +kernel)
set_option maxRecDepth 20000 in
theorem gX10_strikes_X10_larger : GoodIn wsX10_strikes (va_wsS RX10 231 yX10_larger wsX10_larger) := goodIn_app (goodIn_of _ (by decide +kernel)) ggX10_strikes_X10_larger
set_option maxRecDepth 20000 in
theorem ggX10_canStrike_X10_isNext : GoodIn wsX10_canStrike wsX10_isNext := goodIn_r _ [6, 7, 8, 9, 10, 11, 12, 13, 14, 15, 16, 17, 18, 19, 20, 21, 22, 23, 24, 25, 26, 27, 28, 29, 30, 31, 32, 33, 34, 35, 36, 37, 38, 39, 40, 41, 42, 43, 44, 45, 46, 47, 48, 49, 50, 51] (by decide +kernel) (by decide +kernel)
set_option maxRecDepth 20000 in
theorem gX10_canStrike_X10_isNext : GoodIn wsX10_canStrike (wsV RX10 217 RX10 yX10_isNext wsX10_isNext) := goodIn_app (goodIn_of _ (by decide +kernel)) ggX10_canStrike_X10_isNext
set_option maxRecDepth 20000 in
theorem ggX10_matter_X10_isCase : GoodIn wsX10_matter wsX10_isCase := goodIn_r _ [11, 12, 13, 14, 10, 15, 23, 24, 25, 26, 27, 28, 29, 30, 31, 32, 33, 34, 35, 36, 37, 38, 39, 40, 41, 42, 43, 44, 45, 46, 47, 48, 49, 50, 51, 52, 53, 54, 55, 56, 57, 58, 59, 60, 61, 62, 63, 64, 65, 66] (by decide +kernel) (by decide +kernel)
set_option maxRecDepth 20000 in
theorem gX10_matter_X10_isCase : GoodIn wsX10_matter (wsV RX10 234 RX10 yX10_isCase wsX10_isCase) := goodIn_app (goodIn_of _ (by decide +kernel)) ggX10_matter_X10_isCase
set_option maxRecDepth 20000 in
theorem ggX10_matter_X10_in : GoodIn wsX10_matter wsX10_in := goodIn_r _ [15] (by decide +kernel) (by decide +kernel)
set_option maxRecDepth 20000 in
theorem gX10_matter_X10_in : GoodIn wsX10_matter (va_wsS RX10 137 yX10_in wsX10_in) := goodIn_app (goodIn_of _ (by decide +kernel)) ggX10_matter_X10_in
set_option maxRecDepth 20000 in
theorem ggX10_matter_X10_own : GoodIn wsX10_matter wsX10_own := goodIn_r _ [19, 5, 4, 2, 3, 23, 24, 25, 26, 27, 28, 29, 30, 31, 32, 33, 34, 35, 36, 37, 38, 39, 40, 41, 42, 43, 44, 45, 46, 47, 48, 49, 50, 51, 52, 53, 54, 55, 56, 57, 58, 59, 60, 61, 62, 63, 64, 65, 66] (by decide +kernel) (by decide +kernel)
set_option maxRecDepth 20000 in
theorem gX10_matter_X10_own : GoodIn wsX10_matter (wsV RX10 207 RX10 yX10_own wsX10_own) := goodIn_app (goodIn_of _ (by decide +kernel)) ggX10_matter_X10_own
set_option maxRecDepth 20000 in
theorem ggX10_matter_X10_smaller : GoodIn wsX10_matter wsX10_smaller := goodIn_r _ [22] (by decide +kernel) (by decide +kernel)
set_option maxRecDepth 20000 in
theorem gX10_matter_X10_smaller : GoodIn wsX10_matter (va_wsS RX10 167 yX10_smaller wsX10_smaller) := goodIn_app (goodIn_of _ (by decide +kernel)) ggX10_matter_X10_smaller
set_option maxRecDepth 20000 in
theorem ggX10_maid_X10_isMaid : GoodIn wsX10_maid wsX10_isMaid := goodIn_r _ [9, 10, 11, 12, 8, 13, 21, 22, 23, 24, 25, 26, 27, 28, 29, 30, 31, 32, 33, 34, 35, 36, 37, 38, 39, 40, 41, 42, 43, 44, 45, 46, 47, 48, 49, 50, 51, 52, 53, 54, 55, 56, 57, 58, 59, 60, 61, 62, 63, 64] (by decide +kernel) (by decide +kernel)
set_option maxRecDepth 20000 in
theorem gX10_maid_X10_isMaid : GoodIn wsX10_maid (wsV RX10 239 RX10 yX10_isMaid wsX10_isMaid) := goodIn_app (goodIn_of _ (by decide +kernel)) ggX10_maid_X10_isMaid
set_option maxRecDepth 20000 in
theorem ggX10_maid_X10_in : GoodIn wsX10_maid wsX10_in := goodIn_r _ [13] (by decide +kernel) (by decide +kernel)
set_option maxRecDepth 20000 in
theorem gX10_maid_X10_in : GoodIn wsX10_maid (va_wsS RX10 137 yX10_in wsX10_in) := goodIn_app (goodIn_of _ (by decide +kernel)) ggX10_maid_X10_in
set_option maxRecDepth 20000 in
theorem ggX10_maid_X10_takes : GoodIn wsX10_maid wsX10_takes := goodIn_r _ [17, 3, 2, 18, 19, 8, 20, 21, 22, 23, 24, 25, 26, 27, 28, 29, 30, 31, 32, 33, 34, 35, 36, 37, 38, 39, 40, 41, 42, 43, 44, 45, 46, 47, 48, 49, 50, 51, 52, 53, 54, 55, 56, 57, 58, 59, 60, 61, 62, 63, 64] (by decide +kernel) (by decide +kernel)
set_option maxRecDepth 20000 in
theorem gX10_maid_X10_takes : GoodIn wsX10_maid (wsV RX10 228 RX10 yX10_takes wsX10_takes) := goodIn_app (goodIn_of _ (by decide +kernel)) ggX10_maid_X10_takes
set_option maxRecDepth 20000 in
theorem ggX10_known_X10_copies : GoodIn wsX10_known wsX10_copies := goodIn_r _ [7, 2, 8, 9, 10, 11, 12, 13, 14, 15, 16, 17, 18, 19, 20, 21, 22, 23, 24, 25, 26, 27, 28, 29, 30, 31, 32, 33, 34, 35, 36, 37, 38, 39, 40, 41, 42, 43, 44, 45, 46, 47, 48, 49, 50, 51] (by decide +kernel) (by decide +kernel)
set_option maxRecDepth 20000 in
theorem gX10_known_X10_copies : GoodIn wsX10_known (wsV RX10 244 RX10 yX10_copies wsX10_copies) := goodIn_app (goodIn_of _ (by decide +kernel)) ggX10_known_X10_copies
set_option maxRecDepth 20000 in
theorem ggX10_stroke_X10_isMaid : GoodIn wsX10_stroke wsX10_isMaid := goodIn_r _ [6, 7, 8, 9, 5, 10, 54, 55, 56, 57, 58, 59, 60, 61, 62, 63, 64, 65, 66, 67, 68, 69, 70, 71, 72, 73, 74, 75, 76, 77, 78, 79, 80, 81, 82, 83, 84, 85, 86, 87, 88, 89, 90, 91, 92, 93, 94, 95, 96, 97] (by decide +kernel) (by decide +kernel)
set_option maxRecDepth 20000 in
theorem gX10_stroke_X10_isMaid : GoodIn wsX10_stroke (wsV RX10 239 RX10 yX10_isMaid wsX10_isMaid) := goodIn_app (goodIn_of _ (by decide +kernel)) ggX10_stroke_X10_isMaid
set_option maxRecDepth 20000 in
theorem ggX10_stroke_X10_isCell : GoodIn wsX10_stroke wsX10_isCell := goodIn_r _ [14, 15, 8, 9, 5, 10, 54, 55, 56, 57, 58, 59, 60, 61, 62, 63, 64, 65, 66, 67, 68, 69, 70, 71, 72, 73, 74, 75, 76, 77, 78, 79, 80, 81, 82, 83, 84, 85, 86, 87, 88, 89, 90, 91, 92, 93, 94, 95, 96, 97] (by decide +kernel) (by decide +kernel)
set_option maxRecDepth 20000 in
theorem gX10_stroke_X10_isCell : GoodIn wsX10_stroke (wsV RX10 203 RX10 yX10_isCell wsX10_isCell) := goodIn_app (goodIn_of _ (by decide +kernel)) ggX10_stroke_X10_isCell
set_option maxRecDepth 20000 in
theorem ggX10_stroke_X10_canStrike : GoodIn wsX10_stroke wsX10_canStrike := goodIn_r _ [19, 1, 20, 21, 22, 5, 23, 24, 54, 55, 56, 57, 58, 59, 60, 61, 62, 63, 64, 65, 66, 67, 68, 69, 70, 71, 72, 73, 74, 75, 76, 77, 78, 79, 80, 81, 82, 83, 84, 85, 86, 87, 88, 89, 90, 91, 92, 93, 94, 95, 96, 97] (by decide +kernel) (by decide +kernel)
set_option maxRecDepth 20000 in
theorem gX10_stroke_X10_canStrike : GoodIn wsX10_stroke (wsV RX10 247 RX10 yX10_canStrike wsX10_canStrike) := goodIn_app (goodIn_of _ (by decide +kernel)) ggX10_stroke_X10_canStrike
set_option maxRecDepth 20000 in
theorem ggX10_stroke_X10_known : GoodIn wsX10_stroke wsX10_known := goodIn_r _ [28, 29, 1, 30, 31, 32, 5, 33, 54, 55, 56, 57, 58, 59, 60, 61, 62, 63, 64, 65, 66, 67, 68, 69, 70, 71, 72, 73, 74, 75, 76, 77, 78, 79, 80, 81, 82, 83, 84, 85, 86, 87, 88, 89, 90, 91, 92, 93, 94, 95, 96, 97] (by decide +kernel) (by decide +kernel)
set_option maxRecDepth 20000 in
theorem gX10_stroke_X10_known : GoodIn wsX10_stroke (wsV RX10 251 RX10 yX10_known wsX10_known) := goodIn_app (goodIn_of _ (by decide +kernel)) ggX10_stroke_X10_known
set_option maxRecDepth 20000 in
theorem ggX10_stroke_X10_strikes : GoodIn wsX10_stroke wsX10_strikes := goodIn_r _ [37, 1, 38, 39, 40, 41, 42, 5, 43, 44, 45, 46, 47, 48, 49, 50, 24, 51, 52, 53, 54, 55, 56, 57, 58, 59, 60, 61, 62, 63, 64, 65, 66, 67, 68, 69, 70, 71, 72, 73, 74, 75, 76, 77, 78, 79, 80, 81, 82, 83, 84, 85, 86, 87, 88, 89, 90, 91, 92, 93, 94, 95, 96, 97] (by decide +kernel) (by decide +kernel)
set_option maxRecDepth 20000 in
theorem gX10_stroke_X10_strikes : GoodIn wsX10_stroke (wsV RX10 254 RX10 yX10_strikes wsX10_strikes) := goodIn_app (goodIn_of _ (by decide +kernel)) ggX10_stroke_X10_strikes
set_option maxRecDepth 20000 in
theorem ggX10_pass_X10_in : GoodIn wsX10_pass wsX10_in := goodIn_r _ [6] (by decide +kernel) (by decide +kernel)
set_option maxRecDepth 20000 in
theorem gX10_pass_X10_in : GoodIn wsX10_pass (va_wsS RX10 137 yX10_in wsX10_in) := goodIn_app (goodIn_of _ (by decide +kernel)) ggX10_pass_X10_in
set_option maxRecDepth 20000 in
theorem ggX10_pass_X10_known : GoodIn wsX10_pass wsX10_known := goodIn_r _ [10, 11, 2, 12, 13, 14, 5, 15, 59, 60, 61, 62, 63, 64, 65, 66, 67, 68, 69, 70, 71, 72, 73, 74, 75, 76, 77, 78, 79, 80, 81, 82, 83, 84, 85, 86, 87, 88, 89, 90, 91, 92, 93, 94, 95, 96, 97, 98, 99, 100, 101, 102] (by decide +kernel) (by decide +kernel)
set_option maxRecDepth 20000 in
theorem gX10_pass_X10_known : GoodIn wsX10_pass (wsV RX10 251 RX10 yX10_known wsX10_known) := goodIn_app (goodIn_of _ (by decide +kernel)) ggX10_pass_X10_known
set_option maxRecDepth 20000 in
theorem ggX10_pass_X10_open : GoodIn wsX10_pass wsX10_open := goodIn_r _ [19, 20, 2, 59, 60, 61, 62, 63, 64, 65, 66, 67, 68, 69, 70, 71, 72, 73, 74, 75, 76, 77, 78, 79, 80, 81, 82, 83, 84, 85, 86, 87, 88, 89, 90, 91, 92, 93, 94, 95, 96, 97, 98, 99, 100, 101, 102] (by decide +kernel) (by decide +kernel)
set_option maxRecDepth 20000 in
theorem gX10_pass_X10_open : GoodIn wsX10_pass (wsV RX10 259 RX10 yX10_open wsX10_open) := goodIn_app (goodIn_of _ (by decide +kernel)) ggX10_pass_X10_open
set_option maxRecDepth 20000 in
theorem ggX10_pass_X10_goes : GoodIn wsX10_pass wsX10_goes := goodIn_r _ [24, 20, 25, 2, 26, 27, 28, 29, 5, 30, 31, 32, 33, 34, 35, 36, 37, 38, 39, 40, 41, 42, 43, 44, 45, 46, 47, 48, 49, 50, 51, 52, 53, 54, 55, 56, 57, 58, 59, 60, 61, 62, 63, 64, 65, 66, 67, 68, 69, 70, 71, 72, 73, 74, 75, 76, 77, 78, 79, 80, 81, 82, 83, 84, 85, 86, 87, 88, 89, 90, 91, 92, 93, 94, 95, 96, 97, 98, 99, 100, 101, 102] (by decide +kernel) (by decide +kernel)
set_option maxRecDepth 20000 in
theorem gX10_pass_X10_goes : GoodIn wsX10_pass (wsV RX10 263 RX10 yX10_goes wsX10_goes) := goodIn_app (goodIn_of _ (by decide +kernel)) ggX10_pass_X10_goes
set_option maxRecDepth 20000 in
theorem ggX10_pardon_X10_isCase : GoodIn wsX10_pardon wsX10_isCase := goodIn_r _ [6, 7, 8, 9, 5, 10, 30, 31, 32, 33, 34, 35, 36, 37, 38, 39, 40, 41, 42, 43, 44, 45, 46, 47, 48, 49, 50, 51, 52, 53, 54, 55, 56, 57, 58, 59, 60, 61, 62, 63, 64, 65, 66, 67, 68, 69, 70, 71, 72, 73] (by decide +kernel) (by decide +kernel)
set_option maxRecDepth 20000 in
theorem gX10_pardon_X10_isCase : GoodIn wsX10_pardon (wsV RX10 234 RX10 yX10_isCase wsX10_isCase) := goodIn_app (goodIn_of _ (by decide +kernel)) ggX10_pardon_X10_isCase
set_option maxRecDepth 20000 in
theorem ggX10_pardon_X10_has : GoodIn wsX10_pardon wsX10_has := goodIn_r _ [13] (by decide +kernel) (by decide +kernel)
set_option maxRecDepth 20000 in
theorem gX10_pardon_X10_has : GoodIn wsX10_pardon (va_wsS RX10 221 yX10_has wsX10_has) := goodIn_app (goodIn_of _ (by decide +kernel)) ggX10_pardon_X10_has
set_option maxRecDepth 20000 in
theorem ggX10_pardon_X10_known : GoodIn wsX10_pardon wsX10_known := goodIn_r _ [17, 18, 1, 19, 20, 21, 5, 22, 30, 31, 32, 33, 34, 35, 36, 37, 38, 39, 40, 41, 42, 43, 44, 45, 46, 47, 48, 49, 50, 51, 52, 53, 54, 55, 56, 57, 58, 59, 60, 61, 62, 63, 64, 65, 66, 67, 68, 69, 70, 71, 72, 73] (by decide +kernel) (by decide +kernel)
set_option maxRecDepth 20000 in
theorem gX10_pardon_X10_known : GoodIn wsX10_pardon (wsV RX10 251 RX10 yX10_known wsX10_known) := goodIn_app (goodIn_of _ (by decide +kernel)) ggX10_pardon_X10_known
set_option maxRecDepth 20000 in
theorem ggX10_pardon_X10_open : GoodIn wsX10_pardon wsX10_open := goodIn_r _ [26, 7, 1, 30, 31, 32, 33, 34, 35, 36, 37, 38, 39, 40, 41, 42, 43, 44, 45, 46, 47, 48, 49, 50, 51, 52, 53, 54, 55, 56, 57, 58, 59, 60, 61, 62, 63, 64, 65, 66, 67, 68, 69, 70, 71, 72, 73] (by decide +kernel) (by decide +kernel)
set_option maxRecDepth 20000 in
theorem gX10_pardon_X10_open : GoodIn wsX10_pardon (wsV RX10 259 RX10 yX10_open wsX10_open) := goodIn_app (goodIn_of _ (by decide +kernel)) ggX10_pardon_X10_open
set_option maxRecDepth 20000 in
theorem ggX10_pardon_X10_bits : GoodIn wsX10_pardon wsX10_bits := goodIn_r _ [29] (by decide +kernel) (by decide +kernel)
set_option maxRecDepth 20000 in
theorem gX10_pardon_X10_bits : GoodIn wsX10_pardon (va_wsS RX10 266 yX10_bits wsX10_bits) := goodIn_app (goodIn_of _ (by decide +kernel)) ggX10_pardon_X10_bits
set_option maxRecDepth 20000 in
theorem ggX10_undo_X10_copies : GoodIn wsX10_undo wsX10_copies := goodIn_r _ [6, 7, 8, 9, 10, 11, 12, 13, 14, 15, 16, 17, 18, 19, 20, 21, 22, 23, 24, 25, 26, 27, 28, 29, 30, 31, 32, 33, 34, 35, 36, 37, 38, 39, 40, 41, 42, 43, 44, 45, 46, 47, 48, 49, 50, 51] (by decide +kernel) (by decide +kernel)
set_option maxRecDepth 20000 in
theorem gX10_undo_X10_copies : GoodIn wsX10_undo (wsV RX10 244 RX10 yX10_copies wsX10_copies) := goodIn_app (goodIn_of _ (by decide +kernel)) ggX10_undo_X10_copies
set_option maxRecDepth 20000 in
theorem ggX10_behind_X10_in : GoodIn wsX10_behind wsX10_in := goodIn_r _ [6] (by decide +kernel) (by decide +kernel)
set_option maxRecDepth 20000 in
theorem gX10_behind_X10_in : GoodIn wsX10_behind (va_wsS RX10 137 yX10_in wsX10_in) := goodIn_app (goodIn_of _ (by decide +kernel)) ggX10_behind_X10_in
set_option maxRecDepth 20000 in
theorem ggX10_behind_X10_isCell : GoodIn wsX10_behind wsX10_isCell := goodIn_r _ [10, 11, 3, 4, 5, 6, 58, 59, 60, 61, 62, 63, 64, 65, 66, 67, 68, 69, 70, 71, 72, 73, 74, 75, 76, 77, 78, 79, 80, 81, 82, 83, 84, 85, 86, 87, 88, 89, 90, 91, 92, 93, 94, 95, 96, 97, 98, 99, 100, 101] (by decide +kernel) (by decide +kernel)
set_option maxRecDepth 20000 in
theorem gX10_behind_X10_isCell : GoodIn wsX10_behind (wsV RX10 203 RX10 yX10_isCell wsX10_isCell) := goodIn_app (goodIn_of _ (by decide +kernel)) ggX10_behind_X10_isCell
set_option maxRecDepth 20000 in
theorem ggX10_behind_X10_copies : GoodIn wsX10_behind wsX10_copies := goodIn_r _ [15, 2, 58, 59, 60, 61, 62, 63, 64, 65, 66, 67, 68, 69, 70, 71, 72, 73, 74, 75, 76, 77, 78, 79, 80, 81, 82, 83, 84, 85, 86, 87, 88, 89, 90, 91, 92, 93, 94, 95, 96, 97, 98, 99, 100, 101] (by decide +kernel) (by decide +kernel)
set_option maxRecDepth 20000 in
theorem gX10_behind_X10_copies : GoodIn wsX10_behind (wsV RX10 244 RX10 yX10_copies wsX10_copies) := goodIn_app (goodIn_of _ (by decide +kernel)) ggX10_behind_X10_copies
set_option maxRecDepth 20000 in
theorem ggX10_behind_X10_open : GoodIn wsX10_behind wsX10_open := goodIn_r _ [19, 20, 2, 58, 59, 60, 61, 62, 63, 64, 65, 66, 67, 68, 69, 70, 71, 72, 73, 74, 75, 76, 77, 78, 79, 80, 81, 82, 83, 84, 85, 86, 87, 88, 89, 90, 91, 92, 93, 94, 95, 96, 97, 98, 99, 100, 101] (by decide +kernel) (by decide +kernel)
set_option maxRecDepth 20000 in
theorem gX10_behind_X10_open : GoodIn wsX10_behind (wsV RX10 259 RX10 yX10_open wsX10_open) := goodIn_app (goodIn_of _ (by decide +kernel)) ggX10_behind_X10_open
set_option maxRecDepth 20000 in
theorem ggX10_behind_X10_goes : GoodIn wsX10_behind wsX10_goes := goodIn_r _ [24, 20, 25, 2, 26, 27, 28, 29, 5, 30, 31, 32, 33, 34, 35, 36, 37, 11, 38, 39, 40, 41, 42, 43, 44, 45, 46, 47, 48, 49, 50, 51, 52, 53, 54, 55, 56, 57, 58, 59, 60, 61, 62, 63, 64, 65, 66, 67, 68, 69, 70, 71, 72, 73, 74, 75, 76, 77, 78, 79, 80, 81, 82, 83, 84, 85, 86, 87, 88, 89, 90, 91, 92, 93, 94, 95, 96, 97, 98, 99, 100, 101] (by decide +kernel) (by decide +kernel)
set_option maxRecDepth 20000 in
theorem gX10_behind_X10_goes : GoodIn wsX10_behind (wsV RX10 263 RX10 yX10_goes wsX10_goes) := goodIn_app (goodIn_of _ (by decide +kernel)) ggX10_behind_X10_goes
set_option maxRecDepth 20000 in
theorem ggX10_hollowed_X10_isCell : GoodIn wsX10_hollowed wsX10_isCell := goodIn_r _ [6, 7, 8, 9, 5, 10, 57, 58, 59, 60, 61, 62, 63, 64, 65, 66, 67, 68, 69, 70, 71, 72, 73, 74, 75, 76, 77, 78, 79, 80, 81, 82, 83, 84, 85, 86, 87, 88, 89, 90, 91, 92, 93, 94, 95, 96, 97, 98, 99, 100] (by decide +kernel) (by decide +kernel)
set_option maxRecDepth 20000 in
theorem gX10_hollowed_X10_isCell : GoodIn wsX10_hollowed (wsV RX10 203 RX10 yX10_isCell wsX10_isCell) := goodIn_app (goodIn_of _ (by decide +kernel)) ggX10_hollowed_X10_isCell
set_option maxRecDepth 20000 in
theorem ggX10_hollowed_X10_copies : GoodIn wsX10_hollowed wsX10_copies := goodIn_r _ [14, 1, 57, 58, 59, 60, 61, 62, 63, 64, 65, 66, 67, 68, 69, 70, 71, 72, 73, 74, 75, 76, 77, 78, 79, 80, 81, 82, 83, 84, 85, 86, 87, 88, 89, 90, 91, 92, 93, 94, 95, 96, 97, 98, 99, 100] (by decide +kernel) (by decide +kernel)
set_option maxRecDepth 20000 in
theorem gX10_hollowed_X10_copies : GoodIn wsX10_hollowed (wsV RX10 244 RX10 yX10_copies wsX10_copies) := goodIn_app (goodIn_of _ (by decide +kernel)) ggX10_hollowed_X10_copies
set_option maxRecDepth 20000 in
theorem ggX10_hollowed_X10_open : GoodIn wsX10_hollowed wsX10_open := goodIn_r _ [18, 19, 1, 57, 58, 59, 60, 61, 62, 63, 64, 65, 66, 67, 68, 69, 70, 71, 72, 73, 74, 75, 76, 77, 78, 79, 80, 81, 82, 83, 84, 85, 86, 87, 88, 89, 90, 91, 92, 93, 94, 95, 96, 97, 98, 99, 100] (by decide +kernel) (by decide +kernel)
set_option maxRecDepth 20000 in
theorem gX10_hollowed_X10_open : GoodIn wsX10_hollowed (wsV RX10 259 RX10 yX10_open wsX10_open) := goodIn_app (goodIn_of _ (by decide +kernel)) ggX10_hollowed_X10_open
set_option maxRecDepth 20000 in
theorem ggX10_hollowed_X10_goes : GoodIn wsX10_hollowed wsX10_goes := goodIn_r _ [23, 19, 24, 1, 25, 26, 27, 28, 5, 29, 30, 31, 32, 33, 34, 35, 36, 7, 37, 38, 39, 40, 41, 42, 43, 44, 45, 46, 47, 48, 49, 50, 51, 52, 53, 54, 55, 56, 57, 58, 59, 60, 61, 62, 63, 64, 65, 66, 67, 68, 69, 70, 71, 72, 73, 74, 75, 76, 77, 78, 79, 80, 81, 82, 83, 84, 85, 86, 87, 88, 89, 90, 91, 92, 93, 94, 95, 96, 97, 98, 99, 100] (by decide +kernel) (by decide +kernel)
set_option maxRecDepth 20000 in
theorem gX10_hollowed_X10_goes : GoodIn wsX10_hollowed (wsV RX10 263 RX10 yX10_goes wsX10_goes) := goodIn_app (goodIn_of _ (by decide +kernel)) ggX10_hollowed_X10_goes
set_option maxRecDepth 20000 in
theorem ggX10_behindStroke_X10_hasBehind : GoodIn wsX10_behindStroke wsX10_hasBehind := goodIn_r _ [7, 8, 19, 20, 21, 22, 23, 24, 25, 26, 27, 28, 29, 30, 31, 32, 33, 34, 35, 36, 37, 38, 39, 40, 41, 42, 43, 44, 45, 46, 47, 48, 49, 50, 51, 52, 53, 54, 55, 56, 57, 58, 59, 60, 61, 62] (by decide +kernel) (by decide +kernel)
set_option maxRecDepth 20000 in
theorem gX10_behindStroke_X10_hasBehind : GoodIn wsX10_behindStroke (wsV RX10 214 RX10 yX10_hasBehind wsX10_hasBehind) := goodIn_app (goodIn_of _ (by decide +kernel)) ggX10_behindStroke_X10_hasBehind
set_option maxRecDepth 20000 in
theorem ggX10_behindStroke_X10_takes : GoodIn wsX10_behindStroke wsX10_takes := goodIn_r _ [12, 2, 1, 13, 14, 6, 15, 19, 20, 21, 22, 23, 24, 25, 26, 27, 28, 29, 30, 31, 32, 33, 34, 35, 36, 37, 38, 39, 40, 41, 42, 43, 44, 45, 46, 47, 48, 49, 50, 51, 52, 53, 54, 55, 56, 57, 58, 59, 60, 61, 62] (by decide +kernel) (by decide +kernel)
set_option maxRecDepth 20000 in
theorem gX10_behindStroke_X10_takes : GoodIn wsX10_behindStroke (wsV RX10 228 RX10 yX10_takes wsX10_takes) := goodIn_app (goodIn_of _ (by decide +kernel)) ggX10_behindStroke_X10_takes
set_option maxRecDepth 20000 in
theorem ggX10_behindStroke_X10_larger : GoodIn wsX10_behindStroke wsX10_larger := goodIn_r _ [18] (by decide +kernel) (by decide +kernel)
set_option maxRecDepth 20000 in
theorem gX10_behindStroke_X10_larger : GoodIn wsX10_behindStroke (va_wsS RX10 231 yX10_larger wsX10_larger) := goodIn_app (goodIn_of _ (by decide +kernel)) ggX10_behindStroke_X10_larger
set_option maxRecDepth 20000 in
theorem ggX10_smooth_X10_isMaid : GoodIn wsX10_smooth wsX10_isMaid := goodIn_r _ [11, 12, 13, 14, 10, 15, 45, 46, 47, 48, 49, 50, 51, 52, 53, 54, 55, 56, 57, 58, 59, 60, 61, 62, 63, 64, 65, 66, 67, 68, 69, 70, 71, 72, 73, 74, 75, 76, 77, 78, 79, 80, 81, 82, 83, 84, 85, 86, 87, 88] (by decide +kernel) (by decide +kernel)
set_option maxRecDepth 20000 in
theorem gX10_smooth_X10_isMaid : GoodIn wsX10_smooth (wsV RX10 239 RX10 yX10_isMaid wsX10_isMaid) := goodIn_app (goodIn_of _ (by decide +kernel)) ggX10_smooth_X10_isMaid
set_option maxRecDepth 20000 in
theorem ggX10_smooth_X10_isCell : GoodIn wsX10_smooth wsX10_isCell := goodIn_r _ [19, 5, 13, 14, 10, 15, 45, 46, 47, 48, 49, 50, 51, 52, 53, 54, 55, 56, 57, 58, 59, 60, 61, 62, 63, 64, 65, 66, 67, 68, 69, 70, 71, 72, 73, 74, 75, 76, 77, 78, 79, 80, 81, 82, 83, 84, 85, 86, 87, 88] (by decide +kernel) (by decide +kernel)
set_option maxRecDepth 20000 in
theorem gX10_smooth_X10_isCell : GoodIn wsX10_smooth (wsV RX10 203 RX10 yX10_isCell wsX10_isCell) := goodIn_app (goodIn_of _ (by decide +kernel)) ggX10_smooth_X10_isCell
set_option maxRecDepth 20000 in
theorem ggX10_smooth_X10_behindStroke : GoodIn wsX10_smooth wsX10_behindStroke := goodIn_r _ [23, 24, 25, 26, 27, 28, 10, 29, 30, 31, 32, 33, 34, 35, 36, 37, 38, 39, 40, 45, 46, 47, 48, 49, 50, 51, 52, 53, 54, 55, 56, 57, 58, 59, 60, 61, 62, 63, 64, 65, 66, 67, 68, 69, 70, 71, 72, 73, 74, 75, 76, 77, 78, 79, 80, 81, 82, 83, 84, 85, 86, 87, 88] (by decide +kernel) (by decide +kernel)
set_option maxRecDepth 20000 in
theorem gX10_smooth_X10_behindStroke : GoodIn wsX10_smooth (wsV RX10 272 RX10 yX10_behindStroke wsX10_behindStroke) := goodIn_app (goodIn_of _ (by decide +kernel)) ggX10_smooth_X10_behindStroke
set_option maxRecDepth 20000 in
theorem ggX10_smooth_X10_isNext : GoodIn wsX10_smooth wsX10_isNext := goodIn_r _ [44, 30, 45, 46, 47, 48, 49, 50, 51, 52, 53, 54, 55, 56, 57, 58, 59, 60, 61, 62, 63, 64, 65, 66, 67, 68, 69, 70, 71, 72, 73, 74, 75, 76, 77, 78, 79, 80, 81, 82, 83, 84, 85, 86, 87, 88] (by decide +kernel) (by decide +kernel)
set_option maxRecDepth 20000 in
theorem gX10_smooth_X10_isNext : GoodIn wsX10_smooth (wsV RX10 217 RX10 yX10_isNext wsX10_isNext) := goodIn_app (goodIn_of _ (by decide +kernel)) ggX10_smooth_X10_isNext
set_option maxRecDepth 20000 in
theorem ggX10_stands_X10_copies : GoodIn wsX10_stands wsX10_copies := goodIn_r _ [6, 7, 42, 43, 44, 45, 46, 47, 48, 49, 50, 51, 52, 53, 54, 55, 56, 57, 58, 59, 60, 61, 62, 63, 64, 65, 66, 67, 68, 69, 70, 71, 72, 73, 74, 75, 76, 77, 78, 79, 80, 81, 82, 83, 84, 85] (by decide +kernel) (by decide +kernel)
set_option maxRecDepth 20000 in
theorem gX10_stands_X10_copies : GoodIn wsX10_stands (wsV RX10 244 RX10 yX10_copies wsX10_copies) := goodIn_app (goodIn_of _ (by decide +kernel)) ggX10_stands_X10_copies
set_option maxRecDepth 20000 in
theorem ggX10_stands_X10_canStrike : GoodIn wsX10_stands wsX10_canStrike := goodIn_r _ [11, 7, 12, 13, 14, 5, 15, 16, 42, 43, 44, 45, 46, 47, 48, 49, 50, 51, 52, 53, 54, 55, 56, 57, 58, 59, 60, 61, 62, 63, 64, 65, 66, 67, 68, 69, 70, 71, 72, 73, 74, 75, 76, 77, 78, 79, 80, 81, 82, 83, 84, 85] (by decide +kernel) (by decide +kernel)
set_option maxRecDepth 20000 in
theorem gX10_stands_X10_canStrike : GoodIn wsX10_stands (wsV RX10 247 RX10 yX10_canStrike wsX10_canStrike) := goodIn_app (goodIn_of _ (by decide +kernel)) ggX10_stands_X10_canStrike
set_option maxRecDepth 20000 in
theorem ggX10_stands_X10_strikes : GoodIn wsX10_stands wsX10_strikes := goodIn_r _ [20, 7, 21, 22, 23, 24, 25, 5, 26, 27, 28, 29, 30, 31, 32, 33, 16, 34, 35, 36, 42, 43, 44, 45, 46, 47, 48, 49, 50, 51, 52, 53, 54, 55, 56, 57, 58, 59, 60, 61, 62, 63, 64, 65, 66, 67, 68, 69, 70, 71, 72, 73, 74, 75, 76, 77, 78, 79, 80, 81, 82, 83, 84, 85] (by decide +kernel) (by decide +kernel)
set_option maxRecDepth 20000 in
theorem gX10_stands_X10_strikes : GoodIn wsX10_stands (wsV RX10 254 RX10 yX10_strikes wsX10_strikes) := goodIn_app (goodIn_of _ (by decide +kernel)) ggX10_stands_X10_strikes
set_option maxRecDepth 20000 in
theorem ggX10_stands_X10_sum : GoodIn wsX10_stands wsX10_sum := goodIn_r _ [40, 41, 7, 42, 43, 44, 45, 46, 47, 48, 49, 50, 51, 52, 53, 54, 55, 56, 57, 58, 59, 60, 61, 62, 63, 64, 65, 66, 67, 68, 69, 70, 71, 72, 73, 74, 75, 76, 77, 78, 79, 80, 81, 82, 83, 84, 85] (by decide +kernel) (by decide +kernel)
set_option maxRecDepth 20000 in
theorem gX10_stands_X10_sum : GoodIn wsX10_stands (wsV RX10 276 RX10 yX10_sum wsX10_sum) := goodIn_app (goodIn_of _ (by decide +kernel)) ggX10_stands_X10_sum
set_option maxRecDepth 20000 in
theorem ggX10_option_X10_isNext : GoodIn wsX10_option wsX10_isNext := goodIn_r _ [6, 7, 8, 9, 10, 11, 12, 13, 14, 15, 16, 17, 18, 19, 20, 21, 22, 23, 24, 25, 26, 27, 28, 29, 30, 31, 32, 33, 34, 35, 36, 37, 38, 39, 40, 41, 42, 43, 44, 45, 46, 47, 48, 49, 50, 51] (by decide +kernel) (by decide +kernel)
set_option maxRecDepth 20000 in
theorem gX10_option_X10_isNext : GoodIn wsX10_option (wsV RX10 217 RX10 yX10_isNext wsX10_isNext) := goodIn_app (goodIn_of _ (by decide +kernel)) ggX10_option_X10_isNext
set_option maxRecDepth 20000 in
theorem ggX10_round_X10_isMaid : GoodIn wsX10_round wsX10_isMaid := goodIn_r _ [11, 12, 13, 14, 10, 15, 62, 63, 64, 65, 66, 67, 68, 69, 70, 71, 72, 73, 74, 75, 76, 77, 78, 79, 80, 81, 82, 83, 84, 85, 86, 87, 88, 89, 90, 91, 92, 93, 94, 95, 96, 97, 98, 99, 100, 101, 102, 103, 104, 105] (by decide +kernel) (by decide +kernel)
set_option maxRecDepth 20000 in
theorem gX10_round_X10_isMaid : GoodIn wsX10_round (wsV RX10 239 RX10 yX10_isMaid wsX10_isMaid) := goodIn_app (goodIn_of _ (by decide +kernel)) ggX10_round_X10_isMaid
set_option maxRecDepth 20000 in
theorem ggX10_round_X10_in : GoodIn wsX10_round wsX10_in := goodIn_r _ [15] (by decide +kernel) (by decide +kernel)
set_option maxRecDepth 20000 in
theorem gX10_round_X10_in : GoodIn wsX10_round (va_wsS RX10 137 yX10_in wsX10_in) := goodIn_app (goodIn_of _ (by decide +kernel)) ggX10_round_X10_in
set_option maxRecDepth 20000 in
theorem ggX10_round_X10_option : GoodIn wsX10_round wsX10_option := goodIn_r _ [19, 20, 21, 22, 23, 10, 24, 25, 62, 63, 64, 65, 66, 67, 68, 69, 70, 71, 72, 73, 74, 75, 76, 77, 78, 79, 80, 81, 82, 83, 84, 85, 86, 87, 88, 89, 90, 91, 92, 93, 94, 95, 96, 97, 98, 99, 100, 101, 102, 103, 104, 105] (by decide +kernel) (by decide +kernel)
set_option maxRecDepth 20000 in
theorem gX10_round_X10_option : GoodIn wsX10_round (wsV RX10 281 RX10 yX10_option wsX10_option) := goodIn_app (goodIn_of _ (by decide +kernel)) ggX10_round_X10_option
set_option maxRecDepth 20000 in
theorem ggX10_round_X10_stands : GoodIn wsX10_round wsX10_stands := goodIn_r _ [29, 5, 30, 31, 32, 10, 33, 4, 34, 35, 36, 37, 21, 22, 23, 24, 25, 38, 39, 40, 41, 42, 43, 44, 45, 46, 47, 48, 49, 50, 51, 52, 53, 54, 55, 56, 57, 58, 59, 60, 61, 20, 62, 63, 64, 65, 66, 67, 68, 69, 70, 71, 72, 73, 74, 75, 76, 77, 78, 79, 80, 81, 82, 83, 84, 85, 86, 87, 88, 89, 90, 91, 92, 93, 94, 95, 96, 97, 98, 99, 100, 101, 102, 103, 104, 105] (by decide +kernel) (by decide +kernel)
set_option maxRecDepth 20000 in
theorem gX10_round_X10_stands : GoodIn wsX10_round (wsV RX10 284 RX10 yX10_stands wsX10_stands) := goodIn_app (goodIn_of _ (by decide +kernel)) ggX10_round_X10_stands
set_option maxRecDepth 20000 in
theorem ggX10_chairs_X10_in : GoodIn wsX10_chairs wsX10_in := goodIn_r _ [10] (by decide +kernel) (by decide +kernel)
set_option maxRecDepth 20000 in
theorem gX10_chairs_X10_in : GoodIn wsX10_chairs (va_wsS RX10 137 yX10_in wsX10_in) := goodIn_app (goodIn_of _ (by decide +kernel)) ggX10_chairs_X10_in
set_option maxRecDepth 20000 in
theorem ggX10_chairs_X10_bits : GoodIn wsX10_chairs wsX10_bits := goodIn_r _ [13] (by decide +kernel) (by decide +kernel)
set_option maxRecDepth 20000 in
theorem gX10_chairs_X10_bits : GoodIn wsX10_chairs (va_wsS RX10 266 yX10_bits wsX10_bits) := goodIn_app (goodIn_of _ (by decide +kernel)) ggX10_chairs_X10_bits
set_option maxRecDepth 20000 in
theorem ggX10_chairs_X10_larger : GoodIn wsX10_chairs wsX10_larger := goodIn_r _ [16] (by decide +kernel) (by decide +kernel)
set_option maxRecDepth 20000 in
theorem gX10_chairs_X10_larger : GoodIn wsX10_chairs (va_wsS RX10 231 yX10_larger wsX10_larger) := goodIn_app (goodIn_of _ (by decide +kernel)) ggX10_chairs_X10_larger
set_option maxRecDepth 20000 in
theorem ggX10_standsPardoned_X10_copies : GoodIn wsX10_standsPardoned wsX10_copies := goodIn_r _ [6, 1, 54, 55, 56, 57, 58, 59, 60, 61, 62, 63, 64, 65, 66, 67, 68, 69, 70, 71, 72, 73, 74, 75, 76, 77, 78, 79, 80, 81, 82, 83, 84, 85, 86, 87, 88, 89, 90, 91, 92, 93, 94, 95, 96, 97] (by decide +kernel) (by decide +kernel)
set_option maxRecDepth 20000 in
theorem gX10_standsPardoned_X10_copies : GoodIn wsX10_standsPardoned (wsV RX10 244 RX10 yX10_copies wsX10_copies) := goodIn_app (goodIn_of _ (by decide +kernel)) ggX10_standsPardoned_X10_copies
set_option maxRecDepth 20000 in
theorem ggX10_standsPardoned_X10_open : GoodIn wsX10_standsPardoned wsX10_open := goodIn_r _ [10, 11, 1, 54, 55, 56, 57, 58, 59, 60, 61, 62, 63, 64, 65, 66, 67, 68, 69, 70, 71, 72, 73, 74, 75, 76, 77, 78, 79, 80, 81, 82, 83, 84, 85, 86, 87, 88, 89, 90, 91, 92, 93, 94, 95, 96, 97] (by decide +kernel) (by decide +kernel)
set_option maxRecDepth 20000 in
theorem gX10_standsPardoned_X10_open : GoodIn wsX10_standsPardoned (wsV RX10 259 RX10 yX10_open wsX10_open) := goodIn_app (goodIn_of _ (by decide +kernel)) ggX10_standsPardoned_X10_open
set_option maxRecDepth 20000 in
theorem ggX10_standsPardoned_X10_goes : GoodIn wsX10_standsPardoned wsX10_goes := goodIn_r _ [15, 11, 16, 1, 17, 18, 19, 20, 5, 21, 22, 23, 24, 25, 26, 27, 28, 29, 30, 31, 32, 33, 34, 35, 36, 37, 38, 39, 40, 41, 42, 43, 44, 45, 46, 47, 48, 49, 54, 55, 56, 57, 58, 59, 60, 61, 62, 63, 64, 65, 66, 67, 68, 69, 70, 71, 72, 73, 74, 75, 76, 77, 78, 79, 80, 81, 82, 83, 84, 85, 86, 87, 88, 89, 90, 91, 92, 93, 94, 95, 96, 97] (by decide +kernel) (by decide +kernel)
set_option maxRecDepth 20000 in
theorem gX10_standsPardoned_X10_goes : GoodIn wsX10_standsPardoned (wsV RX10 263 RX10 yX10_goes wsX10_goes) := goodIn_app (goodIn_of _ (by decide +kernel)) ggX10_standsPardoned_X10_goes
set_option maxRecDepth 20000 in
theorem ggX10_standsPardoned_X10_sum : GoodIn wsX10_standsPardoned wsX10_sum := goodIn_r _ [53, 29, 1, 54, 55, 56, 57, 58, 59, 60, 61, 62, 63, 64, 65, 66, 67, 68, 69, 70, 71, 72, 73, 74, 75, 76, 77, 78, 79, 80, 81, 82, 83, 84, 85, 86, 87, 88, 89, 90, 91, 92, 93, 94, 95, 96, 97] (by decide +kernel) (by decide +kernel)
set_option maxRecDepth 20000 in
theorem gX10_standsPardoned_X10_sum : GoodIn wsX10_standsPardoned (wsV RX10 276 RX10 yX10_sum wsX10_sum) := goodIn_app (goodIn_of _ (by decide +kernel)) ggX10_standsPardoned_X10_sum
set_option maxRecDepth 20000 in
theorem ggX10_pardons_X10_in : GoodIn wsX10_pardons wsX10_in := goodIn_r _ [7] (by decide +kernel) (by decide +kernel)
set_option maxRecDepth 20000 in
theorem gX10_pardons_X10_in : GoodIn wsX10_pardons (va_wsS RX10 137 yX10_in wsX10_in) := goodIn_app (goodIn_of _ (by decide +kernel)) ggX10_pardons_X10_in
set_option maxRecDepth 20000 in
theorem ggX10_pardons_X10_has : GoodIn wsX10_pardons wsX10_has := goodIn_r _ [10] (by decide +kernel) (by decide +kernel)
set_option maxRecDepth 20000 in
theorem gX10_pardons_X10_has : GoodIn wsX10_pardons (va_wsS RX10 221 yX10_has wsX10_has) := goodIn_app (goodIn_of _ (by decide +kernel)) ggX10_pardons_X10_has
set_option maxRecDepth 20000 in
theorem ggX10_pardons_X10_standsPardoned : GoodIn wsX10_pardons wsX10_standsPardoned := goodIn_r _ [14, 3, 15, 16, 17, 6, 18, 19, 20, 21, 22, 2, 23, 24, 25, 26, 27, 28, 29, 8, 9, 10, 30, 31, 32, 33, 34, 35, 36, 37, 38, 39, 40, 41, 42, 43, 44, 45, 46, 47, 48, 49, 50, 51, 52, 53, 54, 55, 56, 57, 58, 59, 60, 61, 62, 63, 64, 65, 66, 67, 68, 69, 70, 71, 72, 73, 74, 75, 76, 77, 78, 79, 80, 81, 82, 83, 84, 85, 86, 87, 88, 89, 90, 91, 92, 93, 94, 95, 96, 97, 98, 99, 100, 101, 102, 103, 104, 105] (by decide +kernel) (by decide +kernel)
set_option maxRecDepth 20000 in
theorem gX10_pardons_X10_standsPardoned : GoodIn wsX10_pardons (wsV RX10 289 RX10 yX10_standsPardoned wsX10_standsPardoned) := goodIn_app (goodIn_of _ (by decide +kernel)) ggX10_pardons_X10_standsPardoned
set_option maxRecDepth 20000 in
theorem ggX10_pardons_X10_smaller : GoodIn wsX10_pardons wsX10_smaller := goodIn_r _ [48] (by decide +kernel) (by decide +kernel)
set_option maxRecDepth 20000 in
theorem gX10_pardons_X10_smaller : GoodIn wsX10_pardons (va_wsS RX10 167 yX10_smaller wsX10_smaller) := goodIn_app (goodIn_of _ (by decide +kernel)) ggX10_pardons_X10_smaller
set_option maxRecDepth 20000 in
theorem ggX10_see_X10_isCell : GoodIn wsX10_see wsX10_isCell := goodIn_r _ [9, 10, 11, 12, 8, 13, 14, 15, 16, 17, 18, 19, 20, 21, 22, 23, 24, 25, 26, 27, 28, 29, 30, 31, 32, 33, 34, 35, 36, 37, 38, 39, 40, 41, 42, 43, 44, 45, 46, 47, 48, 49, 50, 51, 52, 53, 54, 55, 56, 57] (by decide +kernel) (by decide +kernel)
set_option maxRecDepth 20000 in
theorem gX10_see_X10_isCell : GoodIn wsX10_see (wsV RX10 203 RX10 yX10_isCell wsX10_isCell) := goodIn_app (goodIn_of _ (by decide +kernel)) ggX10_see_X10_isCell
set_option maxRecDepth 20000 in
theorem ggX10_see_X10_in : GoodIn wsX10_see wsX10_in := goodIn_r _ [13] (by decide +kernel) (by decide +kernel)
set_option maxRecDepth 20000 in
theorem gX10_see_X10_in : GoodIn wsX10_see (va_wsS RX10 137 yX10_in wsX10_in) := goodIn_app (goodIn_of _ (by decide +kernel)) ggX10_see_X10_in
set_option maxRecDepth 20000 in
theorem ggX10_isSo_X10_begins : GoodIn wsX10_isSo wsX10_begins := goodIn_r _ [9, 2, 10, 11, 12, 50, 51, 52, 53, 54, 55, 56, 57, 58, 59, 60, 61, 62, 63, 64, 65, 66, 67, 68, 69, 70, 71, 72, 73, 74, 75, 76, 77, 78, 79, 80, 81, 82, 83, 84, 85, 86, 87, 88, 89, 90, 91, 92, 93] (by decide +kernel) (by decide +kernel)
set_option maxRecDepth 20000 in
theorem gX10_isSo_X10_begins : GoodIn wsX10_isSo (wsV RX10 133 RX10 yX10_begins wsX10_begins) := goodIn_app (goodIn_of _ (by decide +kernel)) ggX10_isSo_X10_begins
set_option maxRecDepth 20000 in
theorem ggX10_isSo_X10_goes : GoodIn wsX10_isSo wsX10_goes := goodIn_r _ [16, 17, 18, 2, 11, 12, 19, 20, 8, 21, 22, 23, 24, 25, 26, 27, 28, 29, 30, 31, 32, 33, 34, 35, 36, 37, 38, 39, 40, 41, 42, 43, 44, 45, 46, 47, 48, 49, 50, 51, 52, 53, 54, 55, 56, 57, 58, 59, 60, 61, 62, 63, 64, 65, 66, 67, 68, 69, 70, 71, 72, 73, 74, 75, 76, 77, 78, 79, 80, 81, 82, 83, 84, 85, 86, 87, 88, 89, 90, 91, 92, 93] (by decide +kernel) (by decide +kernel)
set_option maxRecDepth 20000 in
theorem gX10_isSo_X10_goes : GoodIn wsX10_isSo (wsV RX10 263 RX10 yX10_goes wsX10_goes) := goodIn_app (goodIn_of _ (by decide +kernel)) ggX10_isSo_X10_goes
set_option maxRecDepth 20000 in
theorem ggX10_mind_X10_in : GoodIn wsX10_mind wsX10_in := goodIn_r _ [6] (by decide +kernel) (by decide +kernel)
set_option maxRecDepth 20000 in
theorem gX10_mind_X10_in : GoodIn wsX10_mind (va_wsS RX10 137 yX10_in wsX10_in) := goodIn_app (goodIn_of _ (by decide +kernel)) ggX10_mind_X10_in
set_option maxRecDepth 20000 in
theorem ggX10_mind_X10_isSo : GoodIn wsX10_mind wsX10_isSo := goodIn_r _ [10, 11, 12, 13, 14, 15, 16, 17, 5, 18, 19, 20, 21, 22, 23, 24, 25, 2, 26, 27, 28, 29, 30, 31, 32, 33, 34, 35, 36, 37, 38, 39, 40, 41, 42, 43, 44, 45, 46, 47, 48, 49, 50, 51, 52, 53, 54, 55, 56, 57, 58, 59, 60, 61, 62, 63, 64, 65, 66, 67, 68, 69, 70, 71, 72, 73, 74, 75, 76, 77, 78, 79, 80, 81, 82, 83, 84, 85, 86, 87, 88, 89, 90, 91, 92, 93, 94, 95, 96, 97, 98, 99, 100, 101] (by decide +kernel) (by decide +kernel)
set_option maxRecDepth 20000 in
theorem gX10_mind_X10_isSo : GoodIn wsX10_mind (wsV RX10 292 RX10 yX10_isSo wsX10_isSo) := goodIn_app (goodIn_of _ (by decide +kernel)) ggX10_mind_X10_isSo
set_option maxRecDepth 20000 in
theorem ggX10_deep_X10_isCase : GoodIn wsX10_deep wsX10_isCase := goodIn_r _ [8, 3, 9, 10, 7, 11, 62, 63, 64, 65, 66, 67, 68, 69, 70, 71, 72, 73, 74, 75, 76, 77, 78, 79, 80, 81, 82, 83, 84, 85, 86, 87, 88, 89, 90, 91, 92, 93, 94, 95, 96, 97, 98, 99, 100, 101, 102, 103, 104, 105] (by decide +kernel) (by decide +kernel)
set_option maxRecDepth 20000 in
theorem gX10_deep_X10_isCase : GoodIn wsX10_deep (wsV RX10 234 RX10 yX10_isCase wsX10_isCase) := goodIn_app (goodIn_of _ (by decide +kernel)) ggX10_deep_X10_isCase
set_option maxRecDepth 20000 in
theorem ggX10_deep_X10_in : GoodIn wsX10_deep wsX10_in := goodIn_r _ [11] (by decide +kernel) (by decide +kernel)
set_option maxRecDepth 20000 in
theorem gX10_deep_X10_in : GoodIn wsX10_deep (va_wsS RX10 137 yX10_in wsX10_in) := goodIn_app (goodIn_of _ (by decide +kernel)) ggX10_deep_X10_in
set_option maxRecDepth 20000 in
theorem ggX10_deep_X10_isSo : GoodIn wsX10_deep wsX10_isSo := goodIn_r _ [15, 16, 17, 18, 19, 20, 21, 22, 7, 23, 24, 25, 26, 27, 28, 29, 30, 3, 31, 32, 33, 34, 35, 36, 37, 38, 39, 40, 2, 41, 42, 43, 44, 45, 46, 47, 48, 49, 50, 51, 52, 53, 54, 55, 56, 57, 58, 59, 60, 61, 62, 63, 64, 65, 66, 67, 68, 69, 70, 71, 72, 73, 74, 75, 76, 77, 78, 79, 80, 81, 82, 83, 84, 85, 86, 87, 88, 89, 90, 91, 92, 93, 94, 95, 96, 97, 98, 99, 100, 101, 102, 103, 104, 105] (by decide +kernel) (by decide +kernel)
set_option maxRecDepth 20000 in
theorem gX10_deep_X10_isSo : GoodIn wsX10_deep (wsV RX10 292 RX10 yX10_isSo wsX10_isSo) := goodIn_app (goodIn_of _ (by decide +kernel)) ggX10_deep_X10_isSo
set_option maxRecDepth 20000 in
theorem ggX10_slip_X10_isMaid : GoodIn wsX10_slip wsX10_isMaid := goodIn_r _ [8, 9, 10, 11, 7, 12, 30, 31, 32, 33, 34, 35, 36, 37, 38, 39, 40, 41, 42, 43, 44, 45, 46, 47, 48, 49, 50, 51, 52, 53, 54, 55, 56, 57, 58, 59, 60, 61, 62, 63, 64, 65, 66, 67, 68, 69, 70, 71, 72, 73] (by decide +kernel) (by decide +kernel)
set_option maxRecDepth 20000 in
theorem gX10_slip_X10_isMaid : GoodIn wsX10_slip (wsV RX10 239 RX10 yX10_isMaid wsX10_isMaid) := goodIn_app (goodIn_of _ (by decide +kernel)) ggX10_slip_X10_isMaid
set_option maxRecDepth 20000 in
theorem ggX10_slip_X10_isCell : GoodIn wsX10_slip wsX10_isCell := goodIn_r _ [16, 17, 10, 11, 7, 12, 30, 31, 32, 33, 34, 35, 36, 37, 38, 39, 40, 41, 42, 43, 44, 45, 46, 47, 48, 49, 50, 51, 52, 53, 54, 55, 56, 57, 58, 59, 60, 61, 62, 63, 64, 65, 66, 67, 68, 69, 70, 71, 72, 73] (by decide +kernel) (by decide +kernel)
set_option maxRecDepth 20000 in
theorem gX10_slip_X10_isCell : GoodIn wsX10_slip (wsV RX10 203 RX10 yX10_isCell wsX10_isCell) := goodIn_app (goodIn_of _ (by decide +kernel)) ggX10_slip_X10_isCell
set_option maxRecDepth 20000 in
theorem ggX10_slip_X10_in : GoodIn wsX10_slip wsX10_in := goodIn_r _ [12] (by decide +kernel) (by decide +kernel)
set_option maxRecDepth 20000 in
theorem gX10_slip_X10_in : GoodIn wsX10_slip (va_wsS RX10 137 yX10_in wsX10_in) := goodIn_app (goodIn_of _ (by decide +kernel)) ggX10_slip_X10_in
set_option maxRecDepth 20000 in
theorem ggX10_slip_X10_has : GoodIn wsX10_slip wsX10_has := goodIn_r _ [20] (by decide +kernel) (by decide +kernel)
set_option maxRecDepth 20000 in
theorem gX10_slip_X10_has : GoodIn wsX10_slip (va_wsS RX10 221 yX10_has wsX10_has) := goodIn_app (goodIn_of _ (by decide +kernel)) ggX10_slip_X10_has
set_option maxRecDepth 20000 in
theorem ggX10_slip_X10_takes : GoodIn wsX10_slip wsX10_takes := goodIn_r _ [24, 25, 26, 27, 28, 7, 29, 30, 31, 32, 33, 34, 35, 36, 37, 38, 39, 40, 41, 42, 43, 44, 45, 46, 47, 48, 49, 50, 51, 52, 53, 54, 55, 56, 57, 58, 59, 60, 61, 62, 63, 64, 65, 66, 67, 68, 69, 70, 71, 72, 73] (by decide +kernel) (by decide +kernel)
set_option maxRecDepth 20000 in
theorem gX10_slip_X10_takes : GoodIn wsX10_slip (wsV RX10 228 RX10 yX10_takes wsX10_takes) := goodIn_app (goodIn_of _ (by decide +kernel)) ggX10_slip_X10_takes
set_option maxRecDepth 20000 in
theorem ggX10_does_X10_open : GoodIn wsX10_does wsX10_open := goodIn_r _ [9, 2, 1, 63, 64, 65, 66, 67, 68, 69, 70, 71, 72, 73, 74, 75, 76, 77, 78, 79, 80, 81, 82, 83, 84, 85, 86, 87, 88, 89, 90, 91, 92, 93, 94, 95, 96, 97, 98, 99, 100, 101, 102, 103, 104, 105, 106] (by decide +kernel) (by decide +kernel)
set_option maxRecDepth 20000 in
theorem gX10_does_X10_open : GoodIn wsX10_does (wsV RX10 259 RX10 yX10_open wsX10_open) := goodIn_app (goodIn_of _ (by decide +kernel)) ggX10_does_X10_open
set_option maxRecDepth 20000 in
theorem ggX10_does_X10_goes : GoodIn wsX10_does wsX10_goes := goodIn_r _ [13, 2, 14, 1, 3, 15, 16, 17, 8, 18, 19, 20, 21, 22, 23, 24, 25, 4, 26, 27, 28, 29, 30, 31, 32, 33, 34, 35, 36, 37, 38, 39, 40, 41, 42, 43, 44, 45, 63, 64, 65, 66, 67, 68, 69, 70, 71, 72, 73, 74, 75, 76, 77, 78, 79, 80, 81, 82, 83, 84, 85, 86, 87, 88, 89, 90, 91, 92, 93, 94, 95, 96, 97, 98, 99, 100, 101, 102, 103, 104, 105, 106] (by decide +kernel) (by decide +kernel)
set_option maxRecDepth 20000 in
theorem gX10_does_X10_goes : GoodIn wsX10_does (wsV RX10 263 RX10 yX10_goes wsX10_goes) := goodIn_app (goodIn_of _ (by decide +kernel)) ggX10_does_X10_goes
set_option maxRecDepth 20000 in
theorem ggX10_does_X10_canStrike : GoodIn wsX10_does wsX10_canStrike := goodIn_r _ [49, 1, 42, 43, 44, 8, 45, 41, 63, 64, 65, 66, 67, 68, 69, 70, 71, 72, 73, 74, 75, 76, 77, 78, 79, 80, 81, 82, 83, 84, 85, 86, 87, 88, 89, 90, 91, 92, 93, 94, 95, 96, 97, 98, 99, 100, 101, 102, 103, 104, 105, 106] (by decide +kernel) (by decide +kernel)
set_option maxRecDepth 20000 in
theorem gX10_does_X10_canStrike : GoodIn wsX10_does (wsV RX10 247 RX10 yX10_canStrike wsX10_canStrike) := goodIn_app (goodIn_of _ (by decide +kernel)) ggX10_does_X10_canStrike
set_option maxRecDepth 20000 in
theorem ggX10_does_X10_strikes : GoodIn wsX10_does wsX10_strikes := goodIn_r _ [53, 1, 54, 55, 56, 57, 58, 8, 59, 34, 35, 36, 37, 38, 39, 40, 41, 60, 61, 62, 63, 64, 65, 66, 67, 68, 69, 70, 71, 72, 73, 74, 75, 76, 77, 78, 79, 80, 81, 82, 83, 84, 85, 86, 87, 88, 89, 90, 91, 92, 93, 94, 95, 96, 97, 98, 99, 100, 101, 102, 103, 104, 105, 106] (by decide +kernel) (by decide +kernel)
set_option maxRecDepth 20000 in
theorem gX10_does_X10_strikes : GoodIn wsX10_does (wsV RX10 254 RX10 yX10_strikes wsX10_strikes) := goodIn_app (goodIn_of _ (by decide +kernel)) ggX10_does_X10_strikes
set_option maxRecDepth 20000 in
theorem ggX10_evening_X10_in : GoodIn wsX10_evening wsX10_in := goodIn_r _ [9] (by decide +kernel) (by decide +kernel)
set_option maxRecDepth 20000 in
theorem gX10_evening_X10_in : GoodIn wsX10_evening (va_wsS RX10 137 yX10_in wsX10_in) := goodIn_app (goodIn_of _ (by decide +kernel)) ggX10_evening_X10_in
set_option maxRecDepth 20000 in
theorem ggX10_evening_X10_copies : GoodIn wsX10_evening wsX10_copies := goodIn_r _ [13, 14, 87, 88, 89, 90, 91, 92, 93, 94, 95, 96, 97, 98, 99, 100, 101, 102, 103, 104, 105, 106, 107, 108, 109, 110, 111, 112, 113, 114, 115, 116, 117, 118, 119, 120, 121, 122, 123, 124, 125, 126, 127, 128, 129, 130] (by decide +kernel) (by decide +kernel)
set_option maxRecDepth 20000 in
theorem gX10_evening_X10_copies : GoodIn wsX10_evening (wsV RX10 244 RX10 yX10_copies wsX10_copies) := goodIn_app (goodIn_of _ (by decide +kernel)) ggX10_evening_X10_copies
set_option maxRecDepth 20000 in
theorem ggX10_evening_X10_does : GoodIn wsX10_evening wsX10_does := goodIn_r _ [18, 14, 19, 20, 21, 22, 23, 24, 8, 25, 26, 27, 28, 29, 30, 31, 32, 33, 34, 35, 36, 37, 38, 39, 40, 41, 42, 43, 44, 45, 46, 47, 48, 49, 50, 51, 52, 53, 54, 55, 56, 57, 58, 59, 60, 61, 62, 63, 64, 65, 66, 67, 68, 69, 70, 71, 72, 73, 74, 75, 76, 77, 78, 87, 88, 89, 90, 91, 92, 93, 94, 95, 96, 97, 98, 99, 100, 101, 102, 103, 104, 105, 106, 107, 108, 109, 110, 111, 112, 113, 114, 115, 116, 117, 118, 119, 120, 121, 122, 123, 124, 125, 126, 127, 128, 129, 130] (by decide +kernel) (by decide +kernel)
set_option maxRecDepth 20000 in
theorem gX10_evening_X10_does : GoodIn wsX10_evening (wsV RX10 309 RX10 yX10_does wsX10_does) := goodIn_app (goodIn_of _ (by decide +kernel)) ggX10_evening_X10_does
set_option maxRecDepth 20000 in
theorem ggX10_evening_X10_sum : GoodIn wsX10_evening wsX10_sum := goodIn_r _ [82, 21, 14, 87, 88, 89, 90, 91, 92, 93, 94, 95, 96, 97, 98, 99, 100, 101, 102, 103, 104, 105, 106, 107, 108, 109, 110, 111, 112, 113, 114, 115, 116, 117, 118, 119, 120, 121, 122, 123, 124, 125, 126, 127, 128, 129, 130] (by decide +kernel) (by decide +kernel)
set_option maxRecDepth 20000 in
theorem gX10_evening_X10_sum : GoodIn wsX10_evening (wsV RX10 276 RX10 yX10_sum wsX10_sum) := goodIn_app (goodIn_of _ (by decide +kernel)) ggX10_evening_X10_sum
set_option maxRecDepth 20000 in
theorem ggX10_evening_X10_hollows : GoodIn wsX10_evening wsX10_hollows := goodIn_r _ [86, 21, 14, 87, 88, 89, 90, 91, 92, 93, 94, 95, 96, 97, 98, 99, 100, 101, 102, 103, 104, 105, 106, 107, 108, 109, 110, 111, 112, 113, 114, 115, 116, 117, 118, 119, 120, 121, 122, 123, 124, 125, 126, 127, 128, 129, 130] (by decide +kernel) (by decide +kernel)
set_option maxRecDepth 20000 in
theorem gX10_evening_X10_hollows : GoodIn wsX10_evening (wsV RX10 312 RX10 yX10_hollows wsX10_hollows) := goodIn_app (goodIn_of _ (by decide +kernel)) ggX10_evening_X10_hollows
set_option maxRecDepth 20000 in
theorem ggX10_keep_X10_copies : GoodIn wsX10_keep wsX10_copies := goodIn_r _ [6, 7, 8, 9, 10, 11, 12, 13, 14, 15, 16, 17, 18, 19, 20, 21, 22, 23, 24, 25, 26, 27, 28, 29, 30, 31, 32, 33, 34, 35, 36, 37, 38, 39, 40, 41, 42, 43, 44, 45, 46, 47, 48, 49, 50, 51] (by decide +kernel) (by decide +kernel)
set_option maxRecDepth 20000 in
theorem gX10_keep_X10_copies : GoodIn wsX10_keep (wsV RX10 244 RX10 yX10_copies wsX10_copies) := goodIn_app (goodIn_of _ (by decide +kernel)) ggX10_keep_X10_copies
set_option maxRecDepth 20000 in
theorem ggX10_back_X10_copies : GoodIn wsX10_back wsX10_copies := goodIn_r _ [7, 8, 9, 10, 11, 12, 13, 14, 15, 16, 17, 18, 19, 20, 21, 22, 23, 24, 25, 26, 27, 28, 29, 30, 31, 32, 33, 34, 35, 36, 37, 38, 39, 40, 41, 42, 43, 44, 45, 46, 47, 48, 49, 50, 51, 52] (by decide +kernel) (by decide +kernel)
set_option maxRecDepth 20000 in
theorem gX10_back_X10_copies : GoodIn wsX10_back (wsV RX10 244 RX10 yX10_copies wsX10_copies) := goodIn_app (goodIn_of _ (by decide +kernel)) ggX10_back_X10_copies
set_option maxRecDepth 20000 in
theorem ggX10_count_X10_sum : GoodIn wsX10_count wsX10_sum := goodIn_r _ [14, 1, 5, 30, 31, 32, 33, 34, 35, 36, 37, 38, 39, 40, 41, 42, 43, 44, 45, 46, 47, 48, 49, 50, 51, 52, 53, 54, 55, 56, 57, 58, 59, 60, 61, 62, 63, 64, 65, 66, 67, 68, 69, 70, 71, 72, 73] (by decide +kernel) (by decide +kernel)
set_option maxRecDepth 20000 in
theorem gX10_count_X10_sum : GoodIn wsX10_count (wsV RX10 276 RX10 yX10_sum wsX10_sum) := goodIn_app (goodIn_of _ (by decide +kernel)) ggX10_count_X10_sum
set_option maxRecDepth 20000 in
theorem ggX10_count_X10_hollows : GoodIn wsX10_count wsX10_hollows := goodIn_r _ [18, 1, 5, 30, 31, 32, 33, 34, 35, 36, 37, 38, 39, 40, 41, 42, 43, 44, 45, 46, 47, 48, 49, 50, 51, 52, 53, 54, 55, 56, 57, 58, 59, 60, 61, 62, 63, 64, 65, 66, 67, 68, 69, 70, 71, 72, 73] (by decide +kernel) (by decide +kernel)
set_option maxRecDepth 20000 in
theorem gX10_count_X10_hollows : GoodIn wsX10_count (wsV RX10 312 RX10 yX10_hollows wsX10_hollows) := goodIn_app (goodIn_of _ (by decide +kernel)) ggX10_count_X10_hollows
set_option maxRecDepth 20000 in
theorem ggX10_count_X10_open : GoodIn wsX10_count wsX10_open := goodIn_r _ [22, 3, 5, 30, 31, 32, 33, 34, 35, 36, 37, 38, 39, 40, 41, 42, 43, 44, 45, 46, 47, 48, 49, 50, 51, 52, 53, 54, 55, 56, 57, 58, 59, 60, 61, 62, 63, 64, 65, 66, 67, 68, 69, 70, 71, 72, 73] (by decide +kernel) (by decide +kernel)
set_option maxRecDepth 20000 in
theorem gX10_count_X10_open : GoodIn wsX10_count (wsV RX10 259 RX10 yX10_open wsX10_open) := goodIn_app (goodIn_of _ (by decide +kernel)) ggX10_count_X10_open
set_option maxRecDepth 20000 in
theorem ggX10_count_X10_bits : GoodIn wsX10_count wsX10_bits := goodIn_r _ [25] (by decide +kernel) (by decide +kernel)
set_option maxRecDepth 20000 in
theorem gX10_count_X10_bits : GoodIn wsX10_count (va_wsS RX10 266 yX10_bits wsX10_bits) := goodIn_app (goodIn_of _ (by decide +kernel)) ggX10_count_X10_bits
set_option maxRecDepth 20000 in
theorem ggX10_count_X10_allStrokes : GoodIn wsX10_count wsX10_allStrokes := goodIn_r _ [29, 4, 5, 30, 31, 32, 33, 34, 35, 36, 37, 38, 39, 40, 41, 42, 43, 44, 45, 46, 47, 48, 49, 50, 51, 52, 53, 54, 55, 56, 57, 58, 59, 60, 61, 62, 63, 64, 65, 66, 67, 68, 69, 70, 71, 72, 73] (by decide +kernel) (by decide +kernel)
set_option maxRecDepth 20000 in
theorem gX10_count_X10_allStrokes : GoodIn wsX10_count (wsV RX10 315 RX10 yX10_allStrokes wsX10_allStrokes) := goodIn_app (goodIn_of _ (by decide +kernel)) ggX10_count_X10_allStrokes
set_option maxRecDepth 20000 in
theorem ggJ0_length_8abf5_J0_coder_7d493 : GoodIn wsJ0_length_8abf5 wsJ0_coder_7d493 := goodIn_r _ [6, 7, 8] (by decide +kernel) (by decide +kernel)
set_option maxRecDepth 20000 in
theorem gJ0_length_8abf5_J0_coder_7d493 : GoodIn wsJ0_length_8abf5 (wsV RJ0 335 RJ0 yJ0_coder_7d493 wsJ0_coder_7d493) := goodIn_app (goodIn_of _ (by decide +kernel)) ggJ0_length_8abf5_J0_coder_7d493
set_option maxRecDepth 20000 in
theorem ggJ0_charAt_5068e_J0_isLatin1_aae02 : GoodIn wsJ0_charAt_5068e wsJ0_isLatin1_aae02 := goodIn_r _ [6, 7, 8] (by decide +kernel) (by decide +kernel)
set_option maxRecDepth 20000 in
theorem gJ0_charAt_5068e_J0_isLatin1_aae02 : GoodIn wsJ0_charAt_5068e (wsV RJ0 492 RJ0 yJ0_isLatin1_aae02 wsJ0_isLatin1_aae02) := goodIn_app (goodIn_of _ (by decide +kernel)) ggJ0_charAt_5068e_J0_isLatin1_aae02
set_option maxRecDepth 20000 in
theorem ggJ0_charAt_5068e_J1_charAt_3b067 : GoodIn wsJ0_charAt_5068e wsJ1_charAt_3b067 := goodIn_r _ [12, 13, 14, 5, 15, 16, 17, 18, 19, 20] (by decide +kernel) (by decide +kernel)
set_option maxRecDepth 20000 in
theorem gJ0_charAt_5068e_J1_charAt_3b067 : GoodIn wsJ0_charAt_5068e (va_wsS RJ0 495 yJ1_charAt_3b067 wsJ1_charAt_3b067) := goodIn_app (goodIn_of _ (by decide +kernel)) ggJ0_charAt_5068e_J1_charAt_3b067
set_option maxRecDepth 20000 in
theorem ggJ0_charAt_5068e_J2_charAt_3b067 : GoodIn wsJ0_charAt_5068e wsJ2_charAt_3b067 := goodIn_r _ [24, 25, 26, 23, 27, 28, 29, 30, 31, 14, 5, 15, 16, 17, 18, 19, 20, 32, 33, 34, 35, 36, 37] (by decide +kernel) (by decide +kernel)
set_option maxRecDepth 20000 in
theorem gJ0_charAt_5068e_J2_charAt_3b067 : GoodIn wsJ0_charAt_5068e (va_wsS RJ0 498 yJ2_charAt_3b067 wsJ2_charAt_3b067) := goodIn_app (goodIn_of _ (by decide +kernel)) ggJ0_charAt_5068e_J2_charAt_3b067
set_option maxRecDepth 20000 in
theorem ggJ0_checkIndex_df160_J3_checkIndex_8e157 : GoodIn wsJ0_checkIndex_df160 wsJ3_checkIndex_8e157 := goodIn_r _ [5] (by decide +kernel) (by decide +kernel)
set_option maxRecDepth 20000 in
theorem gJ0_checkIndex_df160_J3_checkIndex_8e157 : GoodIn wsJ0_checkIndex_df160 (va_wsS RJ0 1059 yJ3_checkIndex_8e157 wsJ3_checkIndex_8e157) := goodIn_app (goodIn_of _ (by decide +kernel)) ggJ0_checkIndex_df160_J3_checkIndex_8e157
set_option maxRecDepth 20000 in
theorem ggJ1_charAt_3b067_J0_checkIndex_df160 : GoodIn wsJ1_charAt_3b067 wsJ0_checkIndex_df160 := goodIn_r _ [4, 5, 6, 7, 8, 9] (by decide +kernel) (by decide +kernel)
set_option maxRecDepth 20000 in
theorem gJ1_charAt_3b067_J0_checkIndex_df160 : GoodIn wsJ1_charAt_3b067 (va_wsS RJ1 9 yJ0_checkIndex_df160 wsJ0_checkIndex_df160) := goodIn_app (goodIn_of _ (by decide +kernel)) ggJ1_charAt_3b067_J0_checkIndex_df160
set_option maxRecDepth 20000 in
theorem ggJ2_getChar_3b067_J2_length_9d52b : GoodIn wsJ2_getChar_3b067 wsJ2_length_9d52b := goodIn_r _ [7] (by decide +kernel) (by decide +kernel)
set_option maxRecDepth 20000 in
theorem gJ2_getChar_3b067_J2_length_9d52b : GoodIn wsJ2_getChar_3b067 (va_wsS RJ2 48 yJ2_length_9d52b wsJ2_length_9d52b) := goodIn_app (goodIn_of _ (by decide +kernel)) ggJ2_getChar_3b067_J2_length_9d52b
set_option maxRecDepth 20000 in
theorem ggJ2_charAt_3b067_J2_checkIndex_2214a : GoodIn wsJ2_charAt_3b067 wsJ2_checkIndex_2214a := goodIn_r _ [4, 5, 6, 3, 7, 8, 9, 10, 11, 12, 13, 14, 15, 16] (by decide +kernel) (by decide +kernel)
set_option maxRecDepth 20000 in
theorem gJ2_charAt_3b067_J2_checkIndex_2214a : GoodIn wsJ2_charAt_3b067 (va_wsS RJ2 67 yJ2_checkIndex_2214a wsJ2_checkIndex_2214a) := goodIn_app (goodIn_of _ (by decide +kernel)) ggJ2_charAt_3b067_J2_checkIndex_2214a
set_option maxRecDepth 20000 in
theorem ggJ2_charAt_3b067_J2_getChar_3b067 : GoodIn wsJ2_charAt_3b067 wsJ2_getChar_3b067 := goodIn_r _ [19, 20, 21, 22, 5, 6, 3, 7] (by decide +kernel) (by decide +kernel)
set_option maxRecDepth 20000 in
theorem gJ2_charAt_3b067_J2_getChar_3b067 : GoodIn wsJ2_charAt_3b067 (va_wsS RJ2 71 yJ2_getChar_3b067 wsJ2_getChar_3b067) := goodIn_app (goodIn_of _ (by decide +kernel)) ggJ2_charAt_3b067_J2_getChar_3b067
set_option maxRecDepth 20000 in
theorem ggJ2_checkIndex_2214a_J2_length_9d52b : GoodIn wsJ2_checkIndex_2214a wsJ2_length_9d52b := goodIn_r _ [4] (by decide +kernel) (by decide +kernel)
set_option maxRecDepth 20000 in
theorem gJ2_checkIndex_2214a_J2_length_9d52b : GoodIn wsJ2_checkIndex_2214a (va_wsS RJ2 48 yJ2_length_9d52b wsJ2_length_9d52b) := goodIn_app (goodIn_of _ (by decide +kernel)) ggJ2_checkIndex_2214a_J2_length_9d52b
set_option maxRecDepth 20000 in
theorem ggJ2_checkIndex_2214a_J0_checkIndex_df160 : GoodIn wsJ2_checkIndex_2214a wsJ0_checkIndex_df160 := goodIn_r _ [8, 9, 10, 11, 12, 13] (by decide +kernel) (by decide +kernel)
set_option maxRecDepth 20000 in
theorem gJ2_checkIndex_2214a_J0_checkIndex_df160 : GoodIn wsJ2_checkIndex_2214a (va_wsS RJ2 414 yJ0_checkIndex_df160 wsJ0_checkIndex_df160) := goodIn_app (goodIn_of _ (by decide +kernel)) ggJ2_checkIndex_2214a_J0_checkIndex_df160
