set_option maxRecDepth 20000 in
theorem ggX0_spend_X0_choose : GoodIn wsX0_spend wsX0_choose := goodIn_r _ [9, 4, 10, 11, 12, 8, 13, 14, 15, 16, 17, 18, 19, 1, 20, 21, 22, 23, 24, 25, 26, 27, 28, 29, 30, 31, 32, 33, 34, 35, 36, 37, 38, 39, 40, 41, 42, 43, 44, 45, 46, 47, 48, 49, 50, 51, 52, 53, 54, 55, 56, 57, 58, 59, 60, 61, 62, 63, 64, 65, 66, 67, 68, 69, 70, 71, 72, 73, 74, 75, 76, 77, 78, 79, 80, 81, 188, 189, 190, 191, 192, 193, 194, 195, 196, 197, 198, 199, 200, 201, 202, 203, 204, 205, 206, 207, 208, 209, 210] rfl (by decide +kernel)
set_option maxRecDepth 20000 in
theorem gX0_spend_X0_choose : GoodIn wsX0_spend (wsV RX0 34 RX0 yX0_choose wsX0_choose) := goodIn_app (goodIn_of _ (by decide +kernel)) ggX0_spend_X0_choose
set_option maxRecDepth 20000 in
theorem ggX0_spend_X0_gatherAged : GoodIn wsX0_spend wsX0_gatherAged := goodIn_r _ [85, 2, 19, 4, 24, 25, 26, 27, 28, 29, 30, 31, 32, 33, 34, 35, 36, 37, 38, 86, 87, 88, 8, 89, 3, 90, 91, 92, 93, 1, 94, 95, 96, 42, 97, 44, 45, 46, 47, 48, 49, 50, 51, 52, 53, 54, 55, 56, 57, 98, 99, 100, 101, 188, 189, 190, 191, 192, 193, 194, 195, 196, 197, 198, 199, 200, 201, 202, 203, 204, 205, 206, 207, 208, 209, 210] rfl (by decide +kernel)
set_option maxRecDepth 20000 in
theorem gX0_spend_X0_gatherAged : GoodIn wsX0_spend (wsV RX0 38 RX0 yX0_gatherAged wsX0_gatherAged) := goodIn_app (goodIn_of _ (by decide +kernel)) ggX0_spend_X0_gatherAged
set_option maxRecDepth 20000 in
theorem ggX0_spend_X0_countWanted : GoodIn wsX0_spend wsX0_countWanted := goodIn_r _ [105, 1, 2, 3, 39, 40, 41, 42, 43, 44, 45, 46, 47, 48, 27, 49, 29, 50, 30, 31, 32, 51, 52, 53, 54, 55, 56, 57, 188, 189, 190, 191, 192, 193, 197, 198, 199, 200, 201, 202, 203, 204, 205, 206, 207, 208, 209, 210, 194, 195, 196] rfl (by decide +kernel)
set_option maxRecDepth 20000 in
theorem gX0_spend_X0_countWanted : GoodIn wsX0_spend (wsV RX0 41 RX0 yX0_countWanted wsX0_countWanted) := goodIn_app (goodIn_of _ (by decide +kernel)) ggX0_spend_X0_countWanted
set_option maxRecDepth 20000 in
theorem ggX0_spend_X3_countFree : GoodIn wsX0_spend wsX3_countFree := goodIn_r _ [109, 67, 197, 198, 199, 200, 201, 202, 203, 204, 205, 206, 207, 208, 209, 210] rfl (by decide +kernel)
set_option maxRecDepth 20000 in
theorem gX0_spend_X3_countFree : GoodIn wsX0_spend (wsV RX0 45 RX3 yX3_countFree wsX3_countFree) := goodIn_app (goodIn_of _ (by decide +kernel)) ggX0_spend_X3_countFree
set_option maxRecDepth 20000 in
theorem ggX0_choose_X0_forgetChosen : GoodIn wsX0_choose wsX0_forgetChosen := goodIn_r _ [6, 1, 76, 77, 78, 79, 80, 81] rfl (by decide +kernel)
set_option maxRecDepth 20000 in
theorem gX0_choose_X0_forgetChosen : GoodIn wsX0_choose (wsV RX0 57 RX0 yX0_forgetChosen wsX0_forgetChosen) := goodIn_app (goodIn_of _ (by decide +kernel)) ggX0_choose_X0_forgetChosen
set_option maxRecDepth 20000 in
theorem ggX0_choose_X0_weighLive : GoodIn wsX0_choose wsX0_weighLive := goodIn_r _ [10, 11, 12, 13, 14, 15, 16, 17, 18, 19, 20, 21, 22, 23, 24, 25, 26, 27, 28, 29, 30, 31, 32, 33, 34, 35, 36, 37, 38, 39, 40, 41, 42, 43, 44, 45, 46, 47, 48, 49, 50, 51, 76, 77, 78, 79, 80, 81, 82, 83, 84, 85, 86, 87, 88, 89, 90, 91, 92, 93, 94, 95, 96, 97, 98] rfl (by decide +kernel)
set_option maxRecDepth 20000 in
theorem gX0_choose_X0_weighLive : GoodIn wsX0_choose (wsV RX0 60 RX0 yX0_weighLive wsX0_weighLive) := goodIn_app (goodIn_of _ (by decide +kernel)) ggX0_choose_X0_weighLive
set_option maxRecDepth 20000 in
theorem ggX0_choose_X0_bestLeft : GoodIn wsX0_choose wsX0_bestLeft := goodIn_r _ [55, 13, 1, 56, 57, 58, 36, 59, 60, 61, 27, 25, 28, 62, 63, 64, 5, 65, 11, 66, 67, 68, 69, 70, 71, 72, 73, 74, 75, 76, 77, 78, 79, 80, 81, 85, 86, 87, 88, 89, 90, 91, 92, 93, 94, 95, 96, 97, 98] rfl (by decide +kernel)
set_option maxRecDepth 20000 in
theorem gX0_choose_X0_bestLeft : GoodIn wsX0_choose (wsV RX0 63 RX0 yX0_bestLeft wsX0_bestLeft) := goodIn_app (goodIn_of _ (by decide +kernel)) ggX0_choose_X0_bestLeft
set_option maxRecDepth 20000 in
theorem ggX0_weighLive_J7_fill_53178 : GoodIn wsX0_weighLive wsJ7_fill_53178 := goodIn_r _ [7] rfl (by decide +kernel)
set_option maxRecDepth 20000 in
theorem gX0_weighLive_J7_fill_53178 : GoodIn wsX0_weighLive (va_wsS RX0 66 yJ7_fill_53178 wsJ7_fill_53178) := goodIn_app (goodIn_of _ (by decide +kernel)) ggX0_weighLive_J7_fill_53178
set_option maxRecDepth 20000 in
theorem ggX0_weighLive_X2_has : GoodIn wsX0_weighLive wsX2_has := goodIn_r _ [12, 13, 14, 15, 16, 17, 18, 48, 49, 50] rfl (by decide +kernel)
set_option maxRecDepth 20000 in
theorem gX0_weighLive_X2_has : GoodIn wsX0_weighLive (wsV RX0 72 RX2 yX2_has wsX2_has) := goodIn_app (goodIn_of _ (by decide +kernel)) ggX0_weighLive_X2_has
set_option maxRecDepth 20000 in
theorem ggX0_bestLeft_X3_stateOf : GoodIn wsX0_bestLeft wsX3_stateOf := goodIn_r _ [7, 8, 9, 10, 11, 12, 35, 36, 37, 38, 39, 40, 41, 42, 43, 44, 45, 46, 47, 48] rfl (by decide +kernel)
set_option maxRecDepth 20000 in
theorem gX0_bestLeft_X3_stateOf : GoodIn wsX0_bestLeft (wsV RX0 84 RX3 yX3_stateOf wsX3_stateOf) := goodIn_app (goodIn_of _ (by decide +kernel)) ggX0_bestLeft_X3_stateOf
set_option maxRecDepth 20000 in
theorem ggX0_gatherAged_X2_has : GoodIn wsX0_gatherAged wsX2_has := goodIn_r _ [8, 9, 10, 11, 12, 13, 14, 59, 60, 61] rfl (by decide +kernel)
set_option maxRecDepth 20000 in
theorem gX0_gatherAged_X2_has : GoodIn wsX0_gatherAged (wsV RX0 72 RX2 yX2_has wsX2_has) := goodIn_app (goodIn_of _ (by decide +kernel)) ggX0_gatherAged_X2_has
set_option maxRecDepth 20000 in
theorem ggX1_flip_X4_number : GoodIn wsX1_flip wsX4_number := goodIn_r _ [5, 6, 7, 4, 8] rfl (by decide +kernel)
set_option maxRecDepth 20000 in
theorem gX1_flip_X4_number : GoodIn wsX1_flip (va_wsS RX1 30 yX4_number wsX4_number) := goodIn_app (goodIn_of _ (by decide +kernel)) ggX1_flip_X4_number
set_option maxRecDepth 20000 in
theorem ggX1_flip_X4_setNumber : GoodIn wsX1_flip wsX4_setNumber := goodIn_r _ [11, 6, 7, 4, 8] rfl (by decide +kernel)
set_option maxRecDepth 20000 in
theorem gX1_flip_X4_setNumber : GoodIn wsX1_flip (va_wsS RX1 36 yX4_setNumber wsX4_setNumber) := goodIn_app (goodIn_of _ (by decide +kernel)) ggX1_flip_X4_setNumber
set_option maxRecDepth 20000 in
theorem ggX1_write_X4_copy : GoodIn wsX1_write wsX4_copy := goodIn_r _ [13, 14, 15, 16, 17, 18, 19, 12, 20] rfl (by decide +kernel)
set_option maxRecDepth 20000 in
theorem gX1_write_X4_copy : GoodIn wsX1_write (va_wsS RX1 60 yX4_copy wsX4_copy) := goodIn_app (goodIn_of _ (by decide +kernel)) ggX1_write_X4_copy
set_option maxRecDepth 20000 in
theorem ggX2_has_X7_isKey : GoodIn wsX2_has wsX7_isKey := goodIn_r _ [4] rfl (by decide +kernel)
set_option maxRecDepth 20000 in
theorem gX2_has_X7_isKey_n22 : GoodIn wsX2_has (wsX7_isKey) := ggX2_has_X7_isKey
set_option maxRecDepth 20000 in
theorem ggX2_has_X7_isOfLog : GoodIn wsX2_has wsX7_isOfLog := goodIn_r _ [6] rfl (by decide +kernel)
set_option maxRecDepth 20000 in
theorem gX2_has_X7_isOfLog_n26 : GoodIn wsX2_has (wsX7_isOfLog) := ggX2_has_X7_isOfLog
set_option maxRecDepth 20000 in
theorem ggX2_follow_X7_isKey : GoodIn wsX2_follow wsX7_isKey := goodIn_r _ [6] rfl (by decide +kernel)
set_option maxRecDepth 20000 in
theorem gX2_follow_X7_isKey_n22 : GoodIn wsX2_follow (wsX7_isKey) := ggX2_follow_X7_isKey
set_option maxRecDepth 20000 in
theorem ggX2_clear_J7_fill_53178 : GoodIn wsX2_clear wsJ7_fill_53178 := goodIn_r _ [7] rfl (by decide +kernel)
set_option maxRecDepth 20000 in
theorem gX2_clear_J7_fill_53178 : GoodIn wsX2_clear (va_wsS RX2 29 yJ7_fill_53178 wsJ7_fill_53178) := goodIn_app (goodIn_of _ (by decide +kernel)) ggX2_clear_J7_fill_53178
set_option maxRecDepth 20000 in
theorem ggX3_setAsAtFirst_J7_fill_53178 : GoodIn wsX3_setAsAtFirst wsJ7_fill_53178 := goodIn_r _ [11] rfl (by decide +kernel)
set_option maxRecDepth 20000 in
theorem gX3_setAsAtFirst_J7_fill_53178 : GoodIn wsX3_setAsAtFirst (va_wsS RX3 59 yJ7_fill_53178 wsJ7_fill_53178) := goodIn_app (goodIn_of _ (by decide +kernel)) ggX3_setAsAtFirst_J7_fill_53178
set_option maxRecDepth 20000 in
theorem ggX3_stateOf_X7_isOfLog : GoodIn wsX3_stateOf wsX7_isOfLog := goodIn_r _ [5] rfl (by decide +kernel)
set_option maxRecDepth 20000 in
theorem gX3_stateOf_X7_isOfLog_n65 : GoodIn wsX3_stateOf (wsX7_isOfLog) := ggX3_stateOf_X7_isOfLog
set_option maxRecDepth 20000 in
theorem ggX3_isUsed_X7_isOfLog : GoodIn wsX3_isUsed wsX7_isOfLog := goodIn_r _ [4] rfl (by decide +kernel)
set_option maxRecDepth 20000 in
theorem gX3_isUsed_X7_isOfLog_n65 : GoodIn wsX3_isUsed (wsX7_isOfLog) := ggX3_isUsed_X7_isOfLog
set_option maxRecDepth 20000 in
theorem ggX3_use_X7_isOfLog : GoodIn wsX3_use wsX7_isOfLog := goodIn_r _ [4] rfl (by decide +kernel)
set_option maxRecDepth 20000 in
theorem gX3_use_X7_isOfLog_n65 : GoodIn wsX3_use (wsX7_isOfLog) := ggX3_use_X7_isOfLog
set_option maxRecDepth 20000 in
theorem ggX3_forgetTimes_X7_isOfLog : GoodIn wsX3_forgetTimes wsX7_isOfLog := goodIn_r _ [4] rfl (by decide +kernel)
set_option maxRecDepth 20000 in
theorem gX3_forgetTimes_X7_isOfLog_n65 : GoodIn wsX3_forgetTimes (wsX7_isOfLog) := ggX3_forgetTimes_X7_isOfLog
set_option maxRecDepth 20000 in
theorem ggX3_noteTime_X7_isOfLog : GoodIn wsX3_noteTime wsX7_isOfLog := goodIn_r _ [5] rfl (by decide +kernel)
set_option maxRecDepth 20000 in
theorem gX3_noteTime_X7_isOfLog_n65 : GoodIn wsX3_noteTime (wsX7_isOfLog) := ggX3_noteTime_X7_isOfLog
set_option maxRecDepth 20000 in
theorem ggX3_hasRoomFor_X3_fits : GoodIn wsX3_hasRoomFor wsX3_fits := goodIn_r _ [5, 6, 7, 13, 14, 15, 16, 17, 18, 19, 20, 21, 22, 23, 24, 25, 26] rfl (by decide +kernel)
set_option maxRecDepth 20000 in
theorem gX3_hasRoomFor_X3_fits : GoodIn wsX3_hasRoomFor (wsV RX3 90 RX3 yX3_fits wsX3_fits) := goodIn_app (goodIn_of _ (by decide +kernel)) ggX3_hasRoomFor_X3_fits
set_option maxRecDepth 20000 in
theorem ggX3_hasRoomFor_X3_countFree : GoodIn wsX3_hasRoomFor wsX3_countFree := goodIn_r _ [11, 12, 13, 14, 15, 16, 17, 18, 19, 20, 21, 22, 23, 24, 25, 26] rfl (by decide +kernel)
set_option maxRecDepth 20000 in
theorem gX3_hasRoomFor_X3_countFree : GoodIn wsX3_hasRoomFor (wsV RX3 93 RX3 yX3_countFree wsX3_countFree) := goodIn_app (goodIn_of _ (by decide +kernel)) ggX3_hasRoomFor_X3_countFree
set_option maxRecDepth 20000 in
theorem ggX3_append_X3_fits : GoodIn wsX3_append wsX3_fits := goodIn_r _ [10, 2, 3, 85, 86, 87, 88, 89, 90, 91, 92, 93, 94, 95, 96, 97, 98] rfl (by decide +kernel)
set_option maxRecDepth 20000 in
theorem gX3_append_X3_fits : GoodIn wsX3_append (wsV RX3 90 RX3 yX3_fits wsX3_fits) := goodIn_app (goodIn_of _ (by decide +kernel)) ggX3_append_X3_fits
set_option maxRecDepth 20000 in
theorem ggX3_append_X3_openNext : GoodIn wsX3_append wsX3_openNext := goodIn_r _ [14, 2, 3, 15, 4, 16, 17, 18, 9, 19, 20, 21, 22, 23, 24, 25, 26, 27, 28, 29, 30, 31, 32, 33, 34, 35, 36, 37, 38, 39, 40, 41, 42, 43, 44, 45, 46, 47, 48, 49, 50, 51, 52, 53, 54, 55, 56, 57, 58, 59, 60, 61, 62, 85, 86, 87, 88, 89, 90, 91, 92, 93, 94, 95, 96, 97, 98] rfl (by decide +kernel)
set_option maxRecDepth 20000 in
theorem gX3_append_X3_openNext : GoodIn wsX3_append (wsV RX3 97 RX3 yX3_openNext wsX3_openNext) := goodIn_app (goodIn_of _ (by decide +kernel)) ggX3_append_X3_openNext
set_option maxRecDepth 20000 in
theorem ggX3_append_X4_setNumber : GoodIn wsX3_append wsX4_setNumber := goodIn_r _ [42, 37, 38, 35, 39] rfl (by decide +kernel)
set_option maxRecDepth 20000 in
theorem gX3_append_X4_setNumber : GoodIn wsX3_append (va_wsS RX3 100 yX4_setNumber wsX4_setNumber) := goodIn_app (goodIn_of _ (by decide +kernel)) ggX3_append_X4_setNumber
set_option maxRecDepth 20000 in
theorem ggX3_append_X4_copy : GoodIn wsX3_append wsX4_copy := goodIn_r _ [65, 66, 67, 68, 69, 37, 38, 35, 39] rfl (by decide +kernel)
set_option maxRecDepth 20000 in
theorem gX3_append_X4_copy : GoodIn wsX3_append (va_wsS RX3 104 yX4_copy wsX4_copy) := goodIn_app (goodIn_of _ (by decide +kernel)) ggX3_append_X4_copy
set_option maxRecDepth 20000 in
theorem ggX3_append_X4_setSum : GoodIn wsX3_append wsX4_setSum := goodIn_r _ [45, 46, 47, 35, 48, 49, 37, 38, 39, 50, 51, 52, 53, 54, 41, 42] rfl (by decide +kernel)
set_option maxRecDepth 20000 in
theorem gX3_append_X4_setSum : GoodIn wsX3_append (va_wsS RX3 108 yX4_setSum wsX4_setSum) := goodIn_app (goodIn_of _ (by decide +kernel)) ggX3_append_X4_setSum
set_option maxRecDepth 20000 in
theorem ggX3_append_X2_follow : GoodIn wsX3_append wsX2_follow := goodIn_r _ [74, 75, 76, 77, 78, 26, 79, 99, 100, 101] rfl (by decide +kernel)
set_option maxRecDepth 20000 in
theorem gX3_append_X2_follow : GoodIn wsX3_append (wsV RX3 112 RX2 yX2_follow wsX2_follow) := goodIn_app (goodIn_of _ (by decide +kernel)) ggX3_append_X2_follow
set_option maxRecDepth 20000 in
theorem ggX3_append_X3_noteTime : GoodIn wsX3_append wsX3_noteTime := goodIn_r _ [83, 32, 84, 25, 26, 27, 85, 86, 87, 88, 89, 90, 91, 92, 93, 94, 95, 96, 97, 98] rfl (by decide +kernel)
set_option maxRecDepth 20000 in
theorem gX3_append_X3_noteTime : GoodIn wsX3_append (wsV RX3 116 RX3 yX3_noteTime wsX3_noteTime) := goodIn_app (goodIn_of _ (by decide +kernel)) ggX3_append_X3_noteTime
set_option maxRecDepth 20000 in
theorem ggX3_append_X3_noteFresh : GoodIn wsX3_append wsX3_noteFresh := goodIn_r _ [58, 2, 59, 60, 61, 3, 62, 25, 26, 27, 85, 86, 87, 88, 89, 90, 91, 92, 93, 94, 95, 96, 97, 98] rfl (by decide +kernel)
set_option maxRecDepth 20000 in
theorem gX3_append_X3_noteFresh : GoodIn wsX3_append (wsV RX3 120 RX3 yX3_noteFresh wsX3_noteFresh) := goodIn_app (goodIn_of _ (by decide +kernel)) ggX3_append_X3_noteFresh
set_option maxRecDepth 20000 in
theorem ggX3_openNext_X3_leastFree : GoodIn wsX3_openNext wsX3_leastFree := goodIn_r _ [9, 10, 53, 54, 55, 56, 57, 58, 59, 60, 61, 62, 63, 64, 65, 66] rfl (by decide +kernel)
set_option maxRecDepth 20000 in
theorem gX3_openNext_X3_leastFree : GoodIn wsX3_openNext (wsV RX3 124 RX3 yX3_leastFree wsX3_leastFree) := goodIn_app (goodIn_of _ (by decide +kernel)) ggX3_openNext_X3_leastFree
set_option maxRecDepth 20000 in
theorem ggX3_openNext_X3_use : GoodIn wsX3_openNext wsX3_use := goodIn_r _ [14, 10, 15, 16, 17, 53, 54, 55, 56, 57, 58, 59, 60, 61, 62, 63, 64, 65, 66] rfl (by decide +kernel)
set_option maxRecDepth 20000 in
theorem gX3_openNext_X3_use : GoodIn wsX3_openNext (wsV RX3 127 RX3 yX3_use wsX3_use) := goodIn_app (goodIn_of _ (by decide +kernel)) ggX3_openNext_X3_use
set_option maxRecDepth 20000 in
theorem ggX3_openNext_X3_forgetTimes : GoodIn wsX3_openNext wsX3_forgetTimes := goodIn_r _ [21, 22, 15, 16, 17, 53, 54, 55, 56, 57, 58, 59, 60, 61, 62, 63, 64, 65, 66] rfl (by decide +kernel)
set_option maxRecDepth 20000 in
theorem gX3_openNext_X3_forgetTimes : GoodIn wsX3_openNext (wsV RX3 130 RX3 yX3_forgetTimes wsX3_forgetTimes) := goodIn_app (goodIn_of _ (by decide +kernel)) ggX3_openNext_X3_forgetTimes
set_option maxRecDepth 20000 in
theorem ggX3_openNext_X4_clear : GoodIn wsX3_openNext wsX4_clear := goodIn_r _ [26, 27, 28, 25, 29] rfl (by decide +kernel)
set_option maxRecDepth 20000 in
theorem gX3_openNext_X4_clear : GoodIn wsX3_openNext (va_wsS RX3 133 yX4_clear wsX4_clear) := goodIn_app (goodIn_of _ (by decide +kernel)) ggX3_openNext_X4_clear
set_option maxRecDepth 20000 in
theorem ggX3_openNext_X4_setNumber : GoodIn wsX3_openNext wsX4_setNumber := goodIn_r _ [32, 27, 28, 25, 29] rfl (by decide +kernel)
set_option maxRecDepth 20000 in
theorem gX3_openNext_X4_setNumber : GoodIn wsX3_openNext (va_wsS RX3 100 yX4_setNumber wsX4_setNumber) := goodIn_app (goodIn_of _ (by decide +kernel)) ggX3_openNext_X4_setNumber
set_option maxRecDepth 20000 in
theorem ggX3_openNext_X4_setSum : GoodIn wsX3_openNext wsX4_setSum := goodIn_r _ [35, 36, 37, 25, 38, 39, 27, 28, 29, 40, 41, 42, 43, 44, 31, 32] rfl (by decide +kernel)
set_option maxRecDepth 20000 in
theorem gX3_openNext_X4_setSum : GoodIn wsX3_openNext (va_wsS RX3 108 yX4_setSum wsX4_setSum) := goodIn_app (goodIn_of _ (by decide +kernel)) ggX3_openNext_X4_setSum
set_option maxRecDepth 20000 in
theorem ggX3_openNext_X3_noteFresh : GoodIn wsX3_openNext wsX3_noteFresh := goodIn_r _ [48, 1, 49, 50, 51, 2, 52, 15, 16, 17, 53, 54, 55, 56, 57, 58, 59, 60, 61, 62, 63, 64, 65, 66] rfl (by decide +kernel)
set_option maxRecDepth 20000 in
theorem gX3_openNext_X3_noteFresh : GoodIn wsX3_openNext (wsV RX3 120 RX3 yX3_noteFresh wsX3_noteFresh) := goodIn_app (goodIn_of _ (by decide +kernel)) ggX3_openNext_X3_noteFresh
set_option maxRecDepth 20000 in
theorem ggX3_noteFresh_X7_isOfLog : GoodIn wsX3_noteFresh wsX7_isOfLog := goodIn_r _ [9] rfl (by decide +kernel)
set_option maxRecDepth 20000 in
theorem gX3_noteFresh_X7_isOfLog_n65 : GoodIn wsX3_noteFresh (wsX7_isOfLog) := ggX3_noteFresh_X7_isOfLog
set_option maxRecDepth 20000 in
theorem ggX3_loadMemory_X3_isUsed : GoodIn wsX3_loadMemory wsX3_isUsed := goodIn_r _ [8, 9, 10, 11, 12, 32, 33, 34, 35, 36, 37, 38, 39, 40, 41, 42, 43, 44, 45] rfl (by decide +kernel)
set_option maxRecDepth 20000 in
theorem gX3_loadMemory_X3_isUsed : GoodIn wsX3_loadMemory (wsV RX3 156 RX3 yX3_isUsed wsX3_isUsed) := goodIn_app (goodIn_of _ (by decide +kernel)) ggX3_loadMemory_X3_isUsed
set_option maxRecDepth 20000 in
theorem ggX4_number_X4_isWithin : GoodIn wsX4_number wsX4_isWithin := goodIn_r _ [4] rfl (by decide +kernel)
set_option maxRecDepth 20000 in
theorem gX4_number_X4_isWithin : GoodIn wsX4_number (va_wsS RX4 7 yX4_isWithin wsX4_isWithin) := goodIn_app (goodIn_of _ (by decide +kernel)) ggX4_number_X4_isWithin
set_option maxRecDepth 20000 in
theorem ggX4_setNumber_X4_isWithin : GoodIn wsX4_setNumber wsX4_isWithin := goodIn_r _ [4] rfl (by decide +kernel)
set_option maxRecDepth 20000 in
theorem gX4_setNumber_X4_isWithin : GoodIn wsX4_setNumber (va_wsS RX4 7 yX4_isWithin wsX4_isWithin) := goodIn_app (goodIn_of _ (by decide +kernel)) ggX4_setNumber_X4_isWithin
set_option maxRecDepth 20000 in
theorem ggX4_sum_X4_isWithin : GoodIn wsX4_sum wsX4_isWithin := goodIn_r _ [5] rfl (by decide +kernel)
set_option maxRecDepth 20000 in
theorem gX4_sum_X4_isWithin : GoodIn wsX4_sum (va_wsS RX4 7 yX4_isWithin wsX4_isWithin) := goodIn_app (goodIn_of _ (by decide +kernel)) ggX4_sum_X4_isWithin
set_option maxRecDepth 20000 in
theorem ggX4_sum_J6_rotateLeft_7cf53 : GoodIn wsX4_sum wsJ6_rotateLeft_7cf53 := goodIn_r _ [9] rfl (by decide +kernel)
set_option maxRecDepth 20000 in
theorem gX4_sum_J6_rotateLeft_7cf53 : GoodIn wsX4_sum (va_wsS RX4 13 yJ6_rotateLeft_7cf53 wsJ6_rotateLeft_7cf53) := goodIn_app (goodIn_of _ (by decide +kernel)) ggX4_sum_J6_rotateLeft_7cf53
set_option maxRecDepth 20000 in
theorem ggX4_setSum_X4_sum : GoodIn wsX4_setSum wsX4_sum := goodIn_r _ [4, 5, 6, 7, 3, 8, 9, 10, 11, 12] rfl (by decide +kernel)
set_option maxRecDepth 20000 in
theorem gX4_setSum_X4_sum : GoodIn wsX4_setSum (va_wsS RX4 20 yX4_sum wsX4_sum) := goodIn_app (goodIn_of _ (by decide +kernel)) ggX4_setSum_X4_sum
set_option maxRecDepth 20000 in
theorem ggX4_setSum_X4_setNumber : GoodIn wsX4_setSum wsX4_setNumber := goodIn_r _ [15, 6, 7, 3, 8] rfl (by decide +kernel)
set_option maxRecDepth 20000 in
theorem gX4_setSum_X4_setNumber : GoodIn wsX4_setSum (va_wsS RX4 24 yX4_setNumber wsX4_setNumber) := goodIn_app (goodIn_of _ (by decide +kernel)) ggX4_setSum_X4_setNumber
set_option maxRecDepth 20000 in
theorem ggX4_copy_X4_isWithin : GoodIn wsX4_copy wsX4_isWithin := goodIn_r _ [8] rfl (by decide +kernel)
set_option maxRecDepth 20000 in
theorem gX4_copy_X4_isWithin : GoodIn wsX4_copy (va_wsS RX4 7 yX4_isWithin wsX4_isWithin) := goodIn_app (goodIn_of _ (by decide +kernel)) ggX4_copy_X4_isWithin
set_option maxRecDepth 20000 in
theorem ggX4_clear_X4_isWithin : GoodIn wsX4_clear wsX4_isWithin := goodIn_r _ [4] rfl (by decide +kernel)
set_option maxRecDepth 20000 in
theorem gX4_clear_X4_isWithin : GoodIn wsX4_clear (va_wsS RX4 7 yX4_isWithin wsX4_isWithin) := goodIn_app (goodIn_of _ (by decide +kernel)) ggX4_clear_X4_isWithin
set_option maxRecDepth 20000 in
theorem ggX5_takeCheckpoint_X3_setAsAtFirst : GoodIn wsX5_takeCheckpoint wsX3_setAsAtFirst := goodIn_r _ [8, 9, 10, 11, 12, 13, 14, 15, 16, 17, 18, 19, 176, 177, 178, 179, 180, 181, 182, 183, 184, 185, 186, 187, 188, 189] rfl (by decide +kernel)
set_option maxRecDepth 20000 in
theorem gX5_takeCheckpoint_X3_setAsAtFirst : GoodIn wsX5_takeCheckpoint (wsV RX5 27 RX3 yX3_setAsAtFirst wsX3_setAsAtFirst) := goodIn_app (goodIn_of _ (by decide +kernel)) ggX5_takeCheckpoint_X3_setAsAtFirst
set_option maxRecDepth 20000 in
theorem ggX5_takeCheckpoint_X6_setAsAtFirst : GoodIn wsX5_takeCheckpoint wsX6_setAsAtFirst := goodIn_r _ [24, 25, 26, 190, 191, 192, 193, 194, 195] rfl (by decide +kernel)
set_option maxRecDepth 20000 in
theorem gX5_takeCheckpoint_X6_setAsAtFirst : GoodIn wsX5_takeCheckpoint (wsV RX5 32 RX6 yX6_setAsAtFirst wsX6_setAsAtFirst) := goodIn_app (goodIn_of _ (by decide +kernel)) ggX5_takeCheckpoint_X6_setAsAtFirst
set_option maxRecDepth 20000 in
theorem ggX5_takeCheckpoint_X2_clear : GoodIn wsX5_takeCheckpoint wsX2_clear := goodIn_r _ [31, 32, 33, 34, 35, 17, 18, 19, 196, 197, 198] rfl (by decide +kernel)
set_option maxRecDepth 20000 in
theorem gX5_takeCheckpoint_X2_clear : GoodIn wsX5_takeCheckpoint (wsV RX5 35 RX2 yX2_clear wsX2_clear) := goodIn_app (goodIn_of _ (by decide +kernel)) ggX5_takeCheckpoint_X2_clear
set_option maxRecDepth 20000 in
theorem ggX5_takeCheckpoint_X6_newest : GoodIn wsX5_takeCheckpoint wsX6_newest := goodIn_r _ [39, 40, 41, 42, 23, 43, 44, 45, 46, 47, 48, 49, 50, 51, 52, 53, 54, 55, 56, 57, 58, 59, 60, 61, 62, 63, 64, 65, 66, 67, 68, 69, 70, 71, 72, 73, 74, 75, 76, 77, 78, 79, 80, 81, 82, 83, 84, 85, 86, 87, 88, 89, 90, 91, 92, 93, 94, 95, 96, 97, 98, 99, 100, 101, 102, 103, 104, 190, 191, 192, 193, 194, 195, 199, 200, 201, 202, 203] rfl (by decide +kernel)
set_option maxRecDepth 20000 in
theorem gX5_takeCheckpoint_X6_newest : GoodIn wsX5_takeCheckpoint (wsV RX5 40 RX6 yX6_newest wsX6_newest) := goodIn_app (goodIn_of _ (by decide +kernel)) ggX5_takeCheckpoint_X6_newest
set_option maxRecDepth 20000 in
theorem ggX5_goThrough_X5_findNext : GoodIn wsX5_goThrough wsX5_findNext := goodIn_r _ [5, 6, 7, 8, 9, 4, 10, 11, 12, 13, 14, 15, 16, 17, 18, 19, 20, 21, 22, 23, 24, 25, 26, 27, 28, 29, 30, 31, 32, 33, 34, 35, 36, 37, 38, 39, 40, 41, 42, 43, 44, 45, 46, 47, 48, 49, 50, 51, 52, 53, 54, 55, 56, 57, 58, 59, 60, 61, 62, 63, 64, 65, 66, 67, 68, 69, 70, 71, 72, 73, 74, 75, 76, 77, 78, 79, 80, 81, 100, 101, 102, 103, 104, 105, 106, 107, 108, 109, 110, 111, 112, 113, 114, 115, 116, 117, 118, 119, 120, 121, 122] rfl (by decide +kernel)
set_option maxRecDepth 20000 in
theorem gX5_goThrough_X5_findNext : GoodIn wsX5_goThrough (wsV RX5 96 RX5 yX5_findNext wsX5_findNext) := goodIn_app (goodIn_of _ (by decide +kernel)) ggX5_goThrough_X5_findNext
set_option maxRecDepth 20000 in
theorem ggX5_findNext_X5_isNext : GoodIn wsX5_findNext wsX5_isNext := goodIn_r _ [6, 7, 1, 8, 9, 10, 5, 11, 12, 13, 14, 15, 16, 17, 18, 19, 20, 21, 22, 23, 24, 25, 26, 27, 28, 29, 30, 31, 32, 33, 34, 35, 36, 37, 38, 39, 40, 41, 42, 43, 44, 45, 46, 47, 48, 49, 50, 51, 52, 53, 54, 55, 56, 57, 58, 59, 60, 61, 62, 63, 78, 79, 80, 81, 96, 97, 98, 99, 100, 82, 83, 84, 85, 86, 87, 88, 89, 90, 91, 92, 93, 94, 95] rfl (by decide +kernel)
set_option maxRecDepth 20000 in
theorem gX5_findNext_X5_isNext : GoodIn wsX5_findNext (wsV RX5 103 RX5 yX5_isNext wsX5_isNext) := goodIn_app (goodIn_of _ (by decide +kernel)) ggX5_findNext_X5_isNext
set_option maxRecDepth 20000 in
theorem ggX5_findNext_X3_isUsed : GoodIn wsX5_findNext wsX3_isUsed := goodIn_r _ [68, 69, 12, 13, 14, 82, 83, 84, 85, 86, 87, 88, 89, 90, 91, 92, 93, 94, 95] rfl (by decide +kernel)
set_option maxRecDepth 20000 in
theorem gX5_findNext_X3_isUsed : GoodIn wsX5_findNext (wsV RX5 76 RX3 yX3_isUsed wsX3_isUsed) := goodIn_app (goodIn_of _ (by decide +kernel)) ggX5_findNext_X3_isUsed
set_option maxRecDepth 20000 in
theorem ggX5_findNext_X5_hasNextHead : GoodIn wsX5_findNext wsX5_hasNextHead := goodIn_r _ [73, 7, 1, 19, 20, 21, 22, 23, 24, 25, 36, 37, 38, 39, 40, 41, 42, 43, 44, 45, 46, 47, 48, 49, 50, 51, 52, 53, 54, 55, 56, 57, 58, 59, 60, 61, 62, 63, 78, 79, 80, 81, 96, 97, 98, 99, 100, 82, 83, 84, 85, 86, 87, 88, 89, 90, 91, 92, 93, 94, 95] rfl (by decide +kernel)
set_option maxRecDepth 20000 in
theorem gX5_findNext_X5_hasNextHead : GoodIn wsX5_findNext (wsV RX5 107 RX5 yX5_hasNextHead wsX5_hasNextHead) := goodIn_app (goodIn_of _ (by decide +kernel)) ggX5_findNext_X5_hasNextHead
set_option maxRecDepth 20000 in
theorem ggX5_isNext_X5_rightLength : GoodIn wsX5_isNext wsX5_rightLength := goodIn_r _ [7, 1, 8, 9, 10, 11, 12, 13, 6, 14, 15, 16, 17, 18, 19, 20, 21, 22, 23, 24, 25, 26, 27, 28, 29, 30, 31, 32, 33, 34, 35, 36, 37, 38, 39, 40, 41, 42, 43, 44, 45, 46, 47, 48, 49, 50, 51, 52, 53, 54, 55, 56, 57, 58, 59, 60, 61, 62, 63, 64, 65, 66, 67, 68] rfl (by decide +kernel)
set_option maxRecDepth 20000 in
theorem gX5_isNext_X5_rightLength : GoodIn wsX5_isNext (wsV RX5 73 RX5 yX5_rightLength wsX5_rightLength) := goodIn_app (goodIn_of _ (by decide +kernel)) ggX5_isNext_X5_rightLength
set_option maxRecDepth 20000 in
theorem ggX5_hasNextHead_X4_number : GoodIn wsX5_hasNextHead wsX4_number := goodIn_r _ [6, 7, 8, 5, 9] rfl (by decide +kernel)
set_option maxRecDepth 20000 in
theorem gX5_hasNextHead_X4_number : GoodIn wsX5_hasNextHead (va_wsS RX5 122 yX4_number wsX4_number) := goodIn_app (goodIn_of _ (by decide +kernel)) ggX5_hasNextHead_X4_number
set_option maxRecDepth 20000 in
theorem ggX5_fillMemory_X3_loadMemory : GoodIn wsX5_fillMemory wsX3_loadMemory := goodIn_r _ [7, 8, 9, 10, 11, 12, 13, 6, 14, 15, 16, 17, 18, 19, 20, 21, 22, 23, 24, 25, 26, 27, 28, 29, 30, 31, 32, 110, 111, 112, 113, 114, 115, 116, 117, 118, 119, 120, 121, 122, 123, 124, 125, 126, 127, 128] rfl (by decide +kernel)
set_option maxRecDepth 20000 in
theorem gX5_fillMemory_X3_loadMemory : GoodIn wsX5_fillMemory (wsV RX5 148 RX3 yX3_loadMemory wsX3_loadMemory) := goodIn_app (goodIn_of _ (by decide +kernel)) ggX5_fillMemory_X3_loadMemory
set_option maxRecDepth 20000 in
theorem ggX5_fillMemory_X3_forgetTimes : GoodIn wsX5_fillMemory wsX3_forgetTimes := goodIn_r _ [36, 37, 16, 17, 18, 115, 116, 117, 118, 119, 120, 121, 122, 123, 124, 125, 126, 127, 128] rfl (by decide +kernel)
set_option maxRecDepth 20000 in
theorem gX5_fillMemory_X3_forgetTimes : GoodIn wsX5_fillMemory (wsV RX5 152 RX3 yX3_forgetTimes wsX3_forgetTimes) := goodIn_app (goodIn_of _ (by decide +kernel)) ggX5_fillMemory_X3_forgetTimes
set_option maxRecDepth 20000 in
theorem ggX5_fillMemory_X3_isUsed : GoodIn wsX5_fillMemory wsX3_isUsed := goodIn_r _ [14, 15, 16, 17, 18, 115, 116, 117, 118, 119, 120, 121, 122, 123, 124, 125, 126, 127, 128] rfl (by decide +kernel)
set_option maxRecDepth 20000 in
theorem gX5_fillMemory_X3_isUsed : GoodIn wsX5_fillMemory (wsV RX5 76 RX3 yX3_isUsed wsX3_isUsed) := goodIn_app (goodIn_of _ (by decide +kernel)) ggX5_fillMemory_X3_isUsed
set_option maxRecDepth 20000 in
theorem ggX5_rightLength_X7_isOfLog : GoodIn wsX5_rightLength wsX7_isOfLog := goodIn_r _ [4] rfl (by decide +kernel)
set_option maxRecDepth 20000 in
theorem gX5_rightLength_X7_isOfLog_n162 : GoodIn wsX5_rightLength (wsX7_isOfLog) := ggX5_rightLength_X7_isOfLog
set_option maxRecDepth 20000 in
theorem ggX6_write_X6_fillRow : GoodIn wsX6_write wsX6_fillRow := goodIn_r _ [9, 3, 4, 10, 11, 12, 13, 14, 15, 16, 17, 18, 19, 20, 21, 22, 23, 24, 25, 26, 27, 28, 29, 30, 31, 32, 33, 34, 35, 36, 37, 38, 39, 40, 41, 42, 43, 44, 45, 46, 47, 48, 49, 50, 51, 52, 53, 54, 55, 56, 57, 58, 59, 60, 82, 83, 84, 85, 86, 87, 88, 89, 90, 91, 92, 93, 94, 95, 96, 97, 98, 99, 100, 101, 102, 103, 104] rfl (by decide +kernel)
set_option maxRecDepth 20000 in
theorem gX6_write_X6_fillRow : GoodIn wsX6_write (wsV RX6 34 RX6 yX6_fillRow wsX6_fillRow) := goodIn_app (goodIn_of _ (by decide +kernel)) ggX6_write_X6_fillRow
set_option maxRecDepth 20000 in
theorem ggX6_write_X1_write : GoodIn wsX6_write wsX1_write := goodIn_r _ [65, 66, 67, 68, 69, 70, 71, 72, 73, 74, 75, 76, 18, 77, 78, 79, 80, 81, 20, 21, 22, 105, 106, 107, 108, 109] rfl (by decide +kernel)
set_option maxRecDepth 20000 in
theorem gX6_write_X1_write : GoodIn wsX6_write (wsV RX6 38 RX1 yX1_write wsX1_write) := goodIn_app (goodIn_of _ (by decide +kernel)) ggX6_write_X1_write
set_option maxRecDepth 20000 in
theorem ggX6_fillRow_J7_fill_031fb : GoodIn wsX6_fillRow wsJ7_fill_031fb := goodIn_r _ [8] rfl (by decide +kernel)
set_option maxRecDepth 20000 in
theorem gX6_fillRow_J7_fill_031fb : GoodIn wsX6_fillRow (va_wsS RX6 44 yJ7_fill_031fb wsJ7_fill_031fb) := goodIn_app (goodIn_of _ (by decide +kernel)) ggX6_fillRow_J7_fill_031fb
set_option maxRecDepth 20000 in
theorem ggX6_fillRow_X4_setNumber : GoodIn wsX6_fillRow wsX4_setNumber := goodIn_r _ [12, 13, 14, 11, 15] rfl (by decide +kernel)
set_option maxRecDepth 20000 in
theorem gX6_fillRow_X4_setNumber : GoodIn wsX6_fillRow (va_wsS RX6 50 yX4_setNumber wsX4_setNumber) := goodIn_app (goodIn_of _ (by decide +kernel)) ggX6_fillRow_X4_setNumber
set_option maxRecDepth 20000 in
theorem ggX6_fillRow_X2_has : GoodIn wsX6_fillRow wsX2_has := goodIn_r _ [20, 21, 22, 23, 24, 25, 26, 74, 75, 76] rfl (by decide +kernel)
set_option maxRecDepth 20000 in
theorem gX6_fillRow_X2_has : GoodIn wsX6_fillRow (wsV RX6 78 RX2 yX2_has wsX2_has) := goodIn_app (goodIn_of _ (by decide +kernel)) ggX6_fillRow_X2_has
set_option maxRecDepth 20000 in
theorem ggX6_fillRow_X3_isUsed : GoodIn wsX6_fillRow wsX3_isUsed := goodIn_r _ [40, 41, 25, 23, 26, 60, 61, 62, 63, 64, 65, 66, 67, 68, 69, 70, 71, 72, 73] rfl (by decide +kernel)
set_option maxRecDepth 20000 in
theorem gX6_fillRow_X3_isUsed : GoodIn wsX6_fillRow (wsV RX6 89 RX3 yX3_isUsed wsX3_isUsed) := goodIn_app (goodIn_of _ (by decide +kernel)) ggX6_fillRow_X3_isUsed
set_option maxRecDepth 20000 in
theorem ggX6_fillRow_X4_setSum : GoodIn wsX6_fillRow wsX4_setSum := goodIn_r _ [44, 45, 46, 11, 47, 48, 13, 14, 15, 49, 50, 51, 52, 53, 10, 12] rfl (by decide +kernel)
set_option maxRecDepth 20000 in
theorem gX6_fillRow_X4_setSum : GoodIn wsX6_fillRow (va_wsS RX6 92 yX4_setSum wsX4_setSum) := goodIn_app (goodIn_of _ (by decide +kernel)) ggX6_fillRow_X4_setSum
set_option maxRecDepth 20000 in
theorem ggX6_newest_X6_isRight : GoodIn wsX6_newest wsX6_isRight := goodIn_r _ [5, 6, 7, 8, 9, 4, 10, 11, 12, 13, 14, 15, 16, 17, 18, 19, 20, 21, 22, 23, 24, 25, 26, 27, 28, 29, 30, 31, 32, 33, 34, 35, 36, 37, 38, 39, 40, 41, 42, 43, 44, 45, 46, 47, 48, 49, 50, 51, 52, 53, 54, 55, 56, 57, 58, 59, 60, 61, 62, 63, 64, 65, 66, 67, 68, 69, 70, 71, 72, 73, 74, 75, 76, 77] rfl (by decide +kernel)
set_option maxRecDepth 20000 in
theorem gX6_newest_X6_isRight : GoodIn wsX6_newest (wsV RX6 96 RX6 yX6_isRight wsX6_isRight) := goodIn_app (goodIn_of _ (by decide +kernel)) ggX6_newest_X6_isRight
set_option maxRecDepth 20000 in
theorem ggX6_numberAt_X4_number : GoodIn wsX6_numberAt wsX4_number := goodIn_r _ [5, 6, 7, 4, 8] rfl (by decide +kernel)
set_option maxRecDepth 20000 in
theorem gX6_numberAt_X4_number : GoodIn wsX6_numberAt (va_wsS RX6 104 yX4_number wsX4_number) := goodIn_app (goodIn_of _ (by decide +kernel)) ggX6_numberAt_X4_number
set_option maxRecDepth 20000 in
theorem ggX6_isRight_X6_numberAt : GoodIn wsX6_isRight wsX6_numberAt := goodIn_r _ [6, 1, 7, 8, 9, 10, 11, 12, 13, 63, 64, 65, 66, 67, 68, 69, 70, 71, 72, 73] rfl (by decide +kernel)
set_option maxRecDepth 20000 in
theorem gX6_isRight_X6_numberAt : GoodIn wsX6_isRight (wsV RX6 99 RX6 yX6_numberAt wsX6_numberAt) := goodIn_app (goodIn_of _ (by decide +kernel)) ggX6_isRight_X6_numberAt
set_option maxRecDepth 20000 in
theorem ggX7_init_X1_init : GoodIn wsX7_init wsX1_init := goodIn_r _ [33, 34, 2, 3, 35, 28, 36, 37, 38, 39, 40, 41, 96, 97, 98, 99, 100] rfl (by decide +kernel)
set_option maxRecDepth 20000 in
theorem gX7_init_X1_init_n9 : GoodIn wsX7_init (wsX1_init) := ggX7_init_X1_init
set_option maxRecDepth 20000 in
theorem ggX7_init_X2_init : GoodIn wsX7_init wsX2_init := goodIn_r _ [43, 44, 2, 3, 37, 45, 46, 47, 110, 111, 112] rfl (by decide +kernel)
set_option maxRecDepth 20000 in
theorem gX7_init_X2_init_n18 : GoodIn wsX7_init (wsX2_init) := ggX7_init_X2_init
set_option maxRecDepth 20000 in
theorem ggX7_init_X3_init : GoodIn wsX7_init wsX3_init := goodIn_r _ [50, 51, 2, 3, 52, 28, 53, 37, 54, 55, 56, 57, 58, 59, 60, 61, 62, 63, 64, 65, 66, 67, 113, 114, 115, 116, 117, 118, 119, 120, 121, 122, 123, 124, 125, 126] rfl (by decide +kernel)
set_option maxRecDepth 20000 in
theorem gX7_init_X3_init : GoodIn wsX7_init (wsX3_init) := ggX7_init_X3_init
set_option maxRecDepth 20000 in
theorem ggX7_init_X0_init : GoodIn wsX7_init wsX0_init := goodIn_r _ [70, 71, 2, 3, 55, 72, 37, 73, 74, 75, 76, 77, 127, 128, 129, 130, 131, 132] rfl (by decide +kernel)
set_option maxRecDepth 20000 in
theorem gX7_init_X0_init : GoodIn wsX7_init (wsX0_init) := ggX7_init_X0_init
set_option maxRecDepth 20000 in
theorem ggX7_init_X6_init : GoodIn wsX7_init wsX6_init := goodIn_r _ [80, 81, 2, 3, 28, 82, 83, 84, 85, 86, 87, 133, 134, 135, 136, 137, 138] rfl (by decide +kernel)
set_option maxRecDepth 20000 in
theorem gX7_init_X6_init : GoodIn wsX7_init (wsX6_init) := ggX7_init_X6_init
set_option maxRecDepth 20000 in
theorem ggX7_init_X5_init : GoodIn wsX7_init wsX5_init := goodIn_r _ [90, 91, 2, 3, 92, 93, 94, 95, 139, 140, 141, 142] rfl (by decide +kernel)
set_option maxRecDepth 20000 in
theorem gX7_init_X5_init : GoodIn wsX7_init (wsX5_init) := ggX7_init_X5_init
set_option maxRecDepth 20000 in
theorem ggX7_put_X7_isKey : GoodIn wsX7_put wsX7_isKey := goodIn_r _ [8] rfl (by decide +kernel)
set_option maxRecDepth 20000 in
theorem gX7_put_X7_isKey : GoodIn wsX7_put (va_wsS RX7 71 yX7_isKey wsX7_isKey) := goodIn_app (goodIn_of _ (by decide +kernel)) ggX7_put_X7_isKey
set_option maxRecDepth 20000 in
theorem ggX7_put_X3_hasRoomFor : GoodIn wsX7_put wsX3_hasRoomFor := goodIn_r _ [13, 14, 15, 16, 12, 17, 18, 19, 20, 21, 22, 23, 24, 111, 112, 113, 114, 115, 116, 117, 118, 119, 120, 121, 122, 123, 124] rfl (by decide +kernel)
set_option maxRecDepth 20000 in
theorem gX7_put_X3_hasRoomFor : GoodIn wsX7_put (wsV RX7 75 RX3 yX3_hasRoomFor wsX3_hasRoomFor) := goodIn_app (goodIn_of _ (by decide +kernel)) ggX7_put_X3_hasRoomFor
set_option maxRecDepth 20000 in
theorem ggX7_put_X3_append : GoodIn wsX7_put wsX3_append := goodIn_r _ [28, 29, 18, 19, 30, 31, 14, 15, 16, 12, 17, 32, 33, 34, 35, 36, 37, 38, 39, 40, 24, 41, 42, 43, 44, 45, 7, 46, 47, 48, 49, 50, 51, 52, 53, 54, 55, 56, 57, 58, 59, 60, 61, 62, 63, 64, 65, 66, 67, 68, 69, 70, 71, 72, 73, 74, 75, 76, 77, 78, 79, 80, 81, 82, 83, 84, 85, 86, 87, 88, 89, 90, 91, 92, 93, 94, 95, 96, 6, 8, 97, 98, 99, 100, 101, 111, 112, 113, 114, 115, 116, 117, 118, 119, 120, 121, 122, 123, 124, 125, 126, 127] rfl (by decide +kernel)
set_option maxRecDepth 20000 in
theorem gX7_put_X3_append : GoodIn wsX7_put (wsV RX7 81 RX3 yX3_append wsX3_append) := goodIn_app (goodIn_of _ (by decide +kernel)) ggX7_put_X3_append
set_option maxRecDepth 20000 in
theorem ggX7_remove_X2_has : GoodIn wsX7_remove wsX2_has := goodIn_r _ [9, 10, 11, 12, 13, 14, 15, 128, 129, 130] rfl (by decide +kernel)
set_option maxRecDepth 20000 in
theorem gX7_remove_X2_has : GoodIn wsX7_remove (wsV RX7 85 RX2 yX2_has wsX2_has) := goodIn_app (goodIn_of _ (by decide +kernel)) ggX7_remove_X2_has
set_option maxRecDepth 20000 in
theorem ggX7_size_X2_has : GoodIn wsX7_size wsX2_has := goodIn_r _ [8, 9, 10, 11, 12, 13, 14, 43, 44, 45] rfl (by decide +kernel)
set_option maxRecDepth 20000 in
theorem gX7_size_X2_has : GoodIn wsX7_size (wsV RX7 85 RX2 yX2_has wsX2_has) := goodIn_app (goodIn_of _ (by decide +kernel)) ggX7_size_X2_has
set_option maxRecDepth 20000 in
theorem ggX7_value_X2_has : GoodIn wsX7_value wsX2_has := goodIn_r _ [8, 9, 10, 11, 12, 13, 14, 59, 60, 61] rfl (by decide +kernel)
set_option maxRecDepth 20000 in
theorem gX7_value_X2_has : GoodIn wsX7_value (wsV RX7 85 RX2 yX2_has wsX2_has) := goodIn_app (goodIn_of _ (by decide +kernel)) ggX7_value_X2_has
set_option maxRecDepth 20000 in
theorem ggX7_sync_X3_writeFresh : GoodIn wsX7_sync wsX3_writeFresh := goodIn_r _ [8, 9, 10, 11, 12, 13, 7, 14, 15, 16, 17, 18, 19, 20, 21, 22, 23, 24, 25, 26, 27, 28, 29, 30, 31, 32, 33, 34, 35, 36, 37, 38, 39, 40, 41, 42, 43, 44, 45, 46, 47, 57, 58, 59, 60, 61, 62, 63, 64, 65, 66, 67, 68, 69, 70, 71, 72, 73, 74, 75] rfl (by decide +kernel)
set_option maxRecDepth 20000 in
theorem gX7_sync_X3_writeFresh : GoodIn wsX7_sync (wsV RX7 104 RX3 yX3_writeFresh wsX3_writeFresh) := goodIn_app (goodIn_of _ (by decide +kernel)) ggX7_sync_X3_writeFresh
set_option maxRecDepth 20000 in
theorem ggX7_checkpoint_X3_writeFresh : GoodIn wsX7_checkpoint wsX3_writeFresh := goodIn_r _ [9, 10, 11, 12, 13, 14, 8, 15, 16, 17, 18, 19, 20, 21, 22, 23, 24, 25, 26, 27, 28, 29, 30, 31, 32, 33, 34, 35, 36, 37, 38, 39, 40, 41, 42, 43, 44, 45, 46, 47, 48, 128, 129, 130, 131, 132, 133, 134, 135, 136, 137, 138, 139, 140, 141, 142, 143, 144, 145, 146] rfl (by decide +kernel)
set_option maxRecDepth 20000 in
theorem gX7_checkpoint_X3_writeFresh : GoodIn wsX7_checkpoint (wsV RX7 104 RX3 yX3_writeFresh wsX3_writeFresh) := goodIn_app (goodIn_of _ (by decide +kernel)) ggX7_checkpoint_X3_writeFresh
set_option maxRecDepth 20000 in
theorem ggX7_checkpoint_X6_write : GoodIn wsX7_checkpoint wsX6_write := goodIn_r _ [53, 54, 55, 56, 57, 58, 59, 60, 52, 61, 62, 63, 64, 65, 66, 67, 68, 69, 40, 70, 46, 47, 48, 71, 72, 73, 74, 75, 76, 77, 78, 79, 80, 81, 82, 83, 84, 85, 86, 87, 88, 89, 90, 91, 92, 93, 8, 94, 95, 96, 97, 98, 99, 100, 101, 102, 103, 104, 105, 106, 107, 108, 28, 29, 30, 31, 32, 33, 34, 35, 36, 37, 19, 20, 21, 38, 39, 41, 42, 43, 44, 45, 122, 123, 124, 125, 126, 127, 128, 129, 130, 131, 132, 133, 134, 135, 136, 137, 138, 139, 140, 141, 147, 148, 149, 142, 143, 144, 145, 146] rfl (by decide +kernel)
set_option maxRecDepth 20000 in
theorem gX7_checkpoint_X6_write : GoodIn wsX7_checkpoint (wsV RX7 108 RX6 yX6_write wsX6_write) := goodIn_app (goodIn_of _ (by decide +kernel)) ggX7_checkpoint_X6_write
set_option maxRecDepth 20000 in
theorem ggX7_checkpoint_X3_freeSpent : GoodIn wsX7_checkpoint wsX3_freeSpent := goodIn_r _ [112, 95, 128, 129, 130, 131, 132, 133, 134, 135, 136, 137, 138, 139, 140, 141] rfl (by decide +kernel)
set_option maxRecDepth 20000 in
theorem gX7_checkpoint_X3_freeSpent : GoodIn wsX7_checkpoint (wsV RX7 112 RX3 yX3_freeSpent wsX3_freeSpent) := goodIn_app (goodIn_of _ (by decide +kernel)) ggX7_checkpoint_X3_freeSpent
set_option maxRecDepth 20000 in
theorem ggX7_clean_X0_spend : GoodIn wsX7_clean wsX0_spend := goodIn_r _ [7, 8, 9, 10, 11, 12, 13, 14, 6, 15, 16, 17, 18, 19, 20, 21, 22, 23, 24, 25, 26, 27, 28, 29, 30, 31, 32, 33, 34, 35, 36, 37, 38, 39, 40, 41, 42, 43, 44, 45, 46, 47, 48, 49, 50, 51, 52, 53, 54, 55, 56, 57, 58, 59, 60, 61, 62, 63, 64, 65, 66, 67, 68, 69, 70, 71, 72, 73, 74, 75, 76, 77, 78, 79, 80, 81, 82, 83, 84, 85, 86, 87, 88, 89, 90, 91, 92, 93, 94, 95, 96, 97, 98, 99, 100, 101, 102, 103, 104, 105, 106, 107, 108, 109, 110, 111, 112, 113, 114, 115, 116, 117, 118, 119, 120, 121, 122, 123, 124, 125, 126, 127, 128, 129, 130, 131, 132, 133, 134, 135, 136, 137, 138, 139, 140, 141, 142, 143, 144, 145, 146, 147, 148, 149, 150, 151, 152, 153, 154, 155, 156, 157, 158, 159, 160, 161, 162, 163, 164, 165, 166, 167, 168, 169, 170, 171, 172, 173, 174, 175, 176, 177, 178, 179, 180, 181, 182, 183, 184, 185, 186, 187, 188, 189, 190, 191, 192, 193, 203, 204, 205, 206, 207, 208, 209, 210, 211, 212, 213, 214, 215, 216, 217, 218, 219, 220, 221, 222, 223, 224, 225] rfl (by decide +kernel)
set_option maxRecDepth 20000 in
theorem gX7_clean_X0_spend : GoodIn wsX7_clean (wsV RX7 117 RX0 yX0_spend wsX0_spend) := goodIn_app (goodIn_of _ (by decide +kernel)) ggX7_clean_X0_spend
set_option maxRecDepth 20000 in
theorem ggX7_cut_X1_cutAt : GoodIn wsX7_cut wsX1_cutAt := goodIn_r _ [7, 8, 9, 19, 20, 21, 22, 23] rfl (by decide +kernel)
set_option maxRecDepth 20000 in
theorem gX7_cut_X1_cutAt : GoodIn wsX7_cut (wsV RX7 121 RX1 yX1_cutAt wsX1_cutAt) := goodIn_app (goodIn_of _ (by decide +kernel)) ggX7_cut_X1_cutAt
set_option maxRecDepth 20000 in
theorem ggX7_start_X1_cutAt : GoodIn wsX7_start wsX1_cutAt := goodIn_r _ [8, 9, 10, 254, 255, 256, 257, 258] rfl (by decide +kernel)
set_option maxRecDepth 20000 in
theorem gX7_start_X1_cutAt : GoodIn wsX7_start (wsV RX7 121 RX1 yX1_cutAt wsX1_cutAt) := goodIn_app (goodIn_of _ (by decide +kernel)) ggX7_start_X1_cutAt
set_option maxRecDepth 20000 in
theorem ggX7_start_X5_takeCheckpoint : GoodIn wsX7_start wsX5_takeCheckpoint := goodIn_r _ [15, 16, 17, 18, 19, 20, 21, 22, 23, 24, 25, 26, 27, 28, 29, 30, 31, 32, 33, 34, 35, 36, 37, 38, 39, 40, 41, 42, 43, 44, 45, 46, 47, 48, 49, 50, 51, 52, 53, 54, 55, 56, 57, 58, 59, 60, 61, 62, 63, 64, 65, 66, 67, 68, 69, 70, 71, 72, 73, 7, 74, 75, 76, 77, 78, 79, 80, 81, 82, 83, 84, 85, 86, 87, 88, 89, 90, 91, 92, 93, 94, 95, 96, 97, 98, 99, 100, 101, 102, 103, 104, 105, 106, 107, 108, 109, 110, 111, 112, 113, 114, 115, 116, 117, 118, 119, 120, 121, 122, 123, 124, 125, 126, 127, 128, 129, 130, 131, 132, 133, 134, 135, 14, 136, 137, 138, 139, 140, 141, 142, 143, 144, 145, 146, 147, 148, 149, 150, 151, 152, 153, 154, 155, 156, 157, 158, 159, 160, 161, 162, 163, 164, 165, 166, 167, 168, 169, 170, 171, 172, 173, 174, 175, 176, 177, 178, 179, 180, 181, 182, 183, 184, 259, 260, 261, 262, 263, 264, 265, 266, 267, 268, 269, 270, 271, 272, 273, 274, 275, 276, 277, 278, 279, 280, 281, 282, 283, 284, 285, 254, 255, 256, 257, 258] rfl (by decide +kernel)
set_option maxRecDepth 20000 in
theorem gX7_start_X5_takeCheckpoint : GoodIn wsX7_start (wsV RX7 125 RX5 yX5_takeCheckpoint wsX5_takeCheckpoint) := goodIn_app (goodIn_of _ (by decide +kernel)) ggX7_start_X5_takeCheckpoint
set_option maxRecDepth 20000 in
theorem ggX7_start_X5_goThrough : GoodIn wsX7_start wsX5_goThrough := goodIn_r _ [188, 189, 190, 191, 14, 192, 16, 193, 194, 195, 196, 158, 154, 155, 156, 157, 106, 107, 108, 159, 160, 161, 162, 163, 65, 66, 67, 68, 69, 70, 164, 165, 166, 167, 168, 169, 170, 171, 113, 114, 172, 72, 73, 7, 74, 75, 76, 77, 78, 79, 80, 81, 82, 83, 84, 85, 86, 87, 88, 89, 90, 91, 92, 93, 94, 95, 96, 97, 173, 174, 175, 22, 176, 24, 197, 198, 199, 200, 201, 130, 131, 132, 202, 203, 204, 205, 18, 206, 181, 182, 183, 45, 184, 47, 49, 48, 207, 208, 209, 210, 259, 260, 261, 262, 263, 264, 265, 266, 267, 268, 269, 270, 271, 272, 273, 274, 275, 276, 254, 255, 256, 257, 258, 283, 284, 285] rfl (by decide +kernel)
set_option maxRecDepth 20000 in
theorem gX7_start_X5_goThrough : GoodIn wsX7_start (wsV RX7 128 RX5 yX5_goThrough wsX5_goThrough) := goodIn_app (goodIn_of _ (by decide +kernel)) ggX7_start_X5_goThrough
set_option maxRecDepth 20000 in
theorem ggX7_start_X5_fillMemory : GoodIn wsX7_start wsX5_fillMemory := goodIn_r _ [214, 16, 158, 215, 216, 217, 22, 218, 219, 26, 27, 220, 174, 175, 176, 24, 106, 107, 108, 221, 222, 66, 223, 224, 225, 226, 227, 68, 69, 70, 228, 229, 230, 231, 232, 233, 234, 235, 173, 236, 237, 238, 14, 239, 177, 178, 179, 180, 154, 155, 156, 157, 159, 160, 161, 162, 163, 65, 67, 164, 165, 166, 167, 168, 169, 170, 171, 113, 114, 172, 72, 73, 7, 74, 75, 76, 77, 78, 79, 80, 81, 82, 83, 84, 85, 86, 87, 88, 89, 90, 91, 92, 93, 94, 95, 96, 97, 207, 208, 209, 210, 240, 241, 242, 243, 244, 259, 260, 261, 262, 254, 255, 256, 257, 258, 263, 264, 265, 266, 267, 268, 269, 270, 271, 272, 273, 274, 275, 276] rfl (by decide +kernel)
set_option maxRecDepth 20000 in
theorem gX7_start_X5_fillMemory : GoodIn wsX7_start (wsV RX7 132 RX5 yX5_fillMemory wsX5_fillMemory) := goodIn_app (goodIn_of _ (by decide +kernel)) ggX7_start_X5_fillMemory
set_option maxRecDepth 20000 in
theorem ggX7_disk_X7_isOctet : GoodIn wsX7_disk wsX7_isOctet := goodIn_r _ [5] rfl (by decide +kernel)
set_option maxRecDepth 20000 in
theorem gX7_disk_X7_isOctet : GoodIn wsX7_disk (va_wsS RX7 135 yX7_isOctet wsX7_isOctet) := goodIn_app (goodIn_of _ (by decide +kernel)) ggX7_disk_X7_isOctet
set_option maxRecDepth 20000 in
theorem ggX7_disk_X4_number : GoodIn wsX7_disk wsX4_number := goodIn_r _ [9, 10, 11, 8, 12] rfl (by decide +kernel)
set_option maxRecDepth 20000 in
theorem gX7_disk_X4_number : GoodIn wsX7_disk (va_wsS RX7 98 yX4_number wsX4_number) := goodIn_app (goodIn_of _ (by decide +kernel)) ggX7_disk_X4_number
set_option maxRecDepth 20000 in
theorem ggX7_poke_X7_isOctet : GoodIn wsX7_poke wsX7_isOctet := goodIn_r _ [5] rfl (by decide +kernel)
set_option maxRecDepth 20000 in
theorem gX7_poke_X7_isOctet : GoodIn wsX7_poke (va_wsS RX7 135 yX7_isOctet wsX7_isOctet) := goodIn_app (goodIn_of _ (by decide +kernel)) ggX7_poke_X7_isOctet
set_option maxRecDepth 20000 in
theorem ggX7_poke_X1_flip : GoodIn wsX7_poke wsX1_flip := goodIn_r _ [10, 11, 12, 13, 14, 15, 16, 17, 18, 19, 20, 21, 31, 32, 33, 34, 35] rfl (by decide +kernel)
set_option maxRecDepth 20000 in
theorem gX7_poke_X1_flip : GoodIn wsX7_poke (wsV RX7 142 RX1 yX1_flip wsX1_flip) := goodIn_app (goodIn_of _ (by decide +kernel)) ggX7_poke_X1_flip
set_option maxRecDepth 20000 in
theorem ggX7_segment_X7_isOfLog : GoodIn wsX7_segment wsX7_isOfLog := goodIn_r _ [6] rfl (by decide +kernel)
set_option maxRecDepth 20000 in
theorem gX7_segment_X7_isOfLog : GoodIn wsX7_segment (va_wsS RX7 146 yX7_isOfLog wsX7_isOfLog) := goodIn_app (goodIn_of _ (by decide +kernel)) ggX7_segment_X7_isOfLog
set_option maxRecDepth 20000 in
theorem ggX7_segment_X3_stateOf : GoodIn wsX7_segment wsX3_stateOf := goodIn_r _ [11, 12, 13, 4, 5, 6, 71, 72, 73, 74, 75, 76, 77, 78, 79, 80, 81, 82, 83, 84] rfl (by decide +kernel)
set_option maxRecDepth 20000 in
theorem gX7_segment_X3_stateOf : GoodIn wsX7_segment (wsV RX7 149 RX3 yX3_stateOf wsX3_stateOf) := goodIn_app (goodIn_of _ (by decide +kernel)) ggX7_segment_X3_stateOf
set_option maxRecDepth 20000 in
theorem ggX7_segment_X3_isUsed : GoodIn wsX7_segment wsX3_isUsed := goodIn_r _ [17, 13, 4, 5, 6, 71, 72, 73, 74, 75, 76, 77, 78, 79, 80, 81, 82, 83, 84] rfl (by decide +kernel)
set_option maxRecDepth 20000 in
theorem gX7_segment_X3_isUsed : GoodIn wsX7_segment (wsV RX7 152 RX3 yX3_isUsed wsX3_isUsed) := goodIn_app (goodIn_of _ (by decide +kernel)) ggX7_segment_X3_isUsed
set_option maxRecDepth 20000 in
theorem ggX7_where_X2_has : GoodIn wsX7_where wsX2_has := goodIn_r _ [8, 9, 10, 11, 12, 13, 14, 55, 56, 57] rfl (by decide +kernel)
set_option maxRecDepth 20000 in
theorem gX7_where_X2_has : GoodIn wsX7_where (wsV RX7 85 RX2 yX2_has wsX2_has) := goodIn_app (goodIn_of _ (by decide +kernel)) ggX7_where_X2_has
set_option maxRecDepth 20000 in
theorem ggX7_told_X7_toldWhileUp : GoodIn wsX7_told wsX7_toldWhileUp := goodIn_r _ [7, 8, 9, 10, 11, 12, 13, 14, 15, 16, 17, 18, 19, 20, 21, 22, 23, 24, 25, 26, 27, 28, 29, 30, 31, 32, 33, 39, 40, 41, 42, 43, 44, 45, 46, 47, 48, 49, 50, 51, 52, 53, 54, 55, 56, 57, 58, 59, 60, 61] rfl (by decide +kernel)
set_option maxRecDepth 20000 in
theorem gX7_told_X7_toldWhileUp : GoodIn wsX7_told (wsV RX7 179 RX7 yX7_toldWhileUp wsX7_toldWhileUp) := goodIn_app (goodIn_of _ (by decide +kernel)) ggX7_told_X7_toldWhileUp
set_option maxRecDepth 20000 in
theorem ggX7_toldWhileUp_X3_countFree : GoodIn wsX7_toldWhileUp wsX3_countFree := goodIn_r _ [8, 9, 27, 28, 29, 30, 31, 32, 33, 34, 35, 36, 37, 38, 39, 40] rfl (by decide +kernel)
set_option maxRecDepth 20000 in
theorem gX7_toldWhileUp_X3_countFree : GoodIn wsX7_toldWhileUp (wsV RX7 191 RX3 yX3_countFree wsX3_countFree) := goodIn_app (goodIn_of _ (by decide +kernel)) ggX7_toldWhileUp_X3_countFree
set_option maxRecDepth 20000 in
theorem ggX7_toldWhileUp_X3_countFreshOctets : GoodIn wsX7_toldWhileUp wsX3_countFreshOctets := goodIn_r _ [13, 14, 15, 16, 17, 27, 28, 29, 30, 31, 32, 33, 34, 35, 36, 37, 38, 39, 40] rfl (by decide +kernel)
set_option maxRecDepth 20000 in
theorem gX7_toldWhileUp_X3_countFreshOctets : GoodIn wsX7_toldWhileUp (wsV RX7 197 RX3 yX3_countFreshOctets wsX3_countFreshOctets) := goodIn_app (goodIn_of _ (by decide +kernel)) ggX7_toldWhileUp_X3_countFreshOctets
set_option maxRecDepth 20000 in
theorem ggX8_openNext_X8_at : GoodIn wsX8_openNext wsX8_at := goodIn_r _ [12] rfl (by decide +kernel)
set_option maxRecDepth 20000 in
theorem gX8_openNext_X8_at : GoodIn wsX8_openNext (va_wsS RX8 72 yX8_at wsX8_at) := goodIn_app (goodIn_of _ (by decide +kernel)) ggX8_openNext_X8_at
set_option maxRecDepth 20000 in
theorem ggX8_openNext_X8_octets : GoodIn wsX8_openNext wsX8_octets := goodIn_r _ [16, 6, 5, 29, 30, 31, 32, 33, 34, 35, 36, 37, 38, 39, 40, 41, 42, 43, 44, 45, 46, 47, 48, 49, 50, 51, 52, 53, 54, 55, 56, 57, 58] rfl (by decide +kernel)
set_option maxRecDepth 20000 in
theorem gX8_openNext_X8_octets : GoodIn wsX8_openNext (wsV RX8 110 RX8 yX8_octets wsX8_octets) := goodIn_app (goodIn_of _ (by decide +kernel)) ggX8_openNext_X8_octets
set_option maxRecDepth 20000 in
theorem ggX8_openNext_X8_sum : GoodIn wsX8_openNext wsX8_sum := goodIn_r _ [19, 20] rfl (by decide +kernel)
set_option maxRecDepth 20000 in
theorem gX8_openNext_X8_sum : GoodIn wsX8_openNext (va_wsS RX8 84 yX8_sum wsX8_sum) := goodIn_app (goodIn_of _ (by decide +kernel)) ggX8_openNext_X8_sum
set_option maxRecDepth 20000 in
theorem ggX8_openNext_X8_came : GoodIn wsX8_openNext wsX8_came := goodIn_r _ [24, 25, 26, 27, 28, 29, 30, 31, 32, 33, 34, 35, 36, 37, 38, 39, 40, 41, 42, 43, 44, 45, 46, 47, 48, 49, 50, 51, 52, 53, 54, 55, 56, 57, 58] rfl (by decide +kernel)
set_option maxRecDepth 20000 in
theorem gX8_openNext_X8_came : GoodIn wsX8_openNext (wsV RX8 114 RX8 yX8_came wsX8_came) := goodIn_app (goodIn_of _ (by decide +kernel)) ggX8_openNext_X8_came
set_option maxRecDepth 20000 in
theorem ggX8_record_X8_opens : GoodIn wsX8_record wsX8_opens := goodIn_r _ [15, 6, 7, 41, 42, 43, 44, 45, 46, 47, 48, 49, 50, 51, 52, 53, 54, 55, 56, 57, 58, 59, 60, 61, 62, 63, 64, 65, 66, 67, 68, 69, 70] rfl (by decide +kernel)
set_option maxRecDepth 20000 in
theorem gX8_record_X8_opens : GoodIn wsX8_record (wsV RX8 118 RX8 yX8_opens wsX8_opens) := goodIn_app (goodIn_of _ (by decide +kernel)) ggX8_record_X8_opens
set_option maxRecDepth 20000 in
theorem ggX8_record_X8_openNext : GoodIn wsX8_record wsX8_openNext := goodIn_r _ [19, 20, 6, 21, 5, 1, 4, 7, 10, 22, 23, 14, 24, 25, 26, 27, 28, 29, 30, 31, 32, 33, 34, 35, 36, 37, 38, 39, 40, 41, 42, 43, 44, 45, 46, 47, 48, 49, 50, 51, 52, 53, 54, 55, 56, 57, 58, 59, 60, 61, 62, 63, 64, 65, 66, 67, 68, 69, 70] rfl (by decide +kernel)
set_option maxRecDepth 20000 in
theorem gX8_record_X8_openNext : GoodIn wsX8_record (wsV RX8 122 RX8 yX8_openNext wsX8_openNext) := goodIn_app (goodIn_of _ (by decide +kernel)) ggX8_record_X8_openNext
set_option maxRecDepth 20000 in
theorem ggX8_record_X8_octets : GoodIn wsX8_record wsX8_octets := goodIn_r _ [28, 4, 1, 41, 42, 43, 44, 45, 46, 47, 48, 49, 50, 51, 52, 53, 54, 55, 56, 57, 58, 59, 60, 61, 62, 63, 64, 65, 66, 67, 68, 69, 70] rfl (by decide +kernel)
set_option maxRecDepth 20000 in
theorem gX8_record_X8_octets : GoodIn wsX8_record (wsV RX8 110 RX8 yX8_octets wsX8_octets) := goodIn_app (goodIn_of _ (by decide +kernel)) ggX8_record_X8_octets
set_option maxRecDepth 20000 in
theorem ggX8_record_X8_sum : GoodIn wsX8_record wsX8_sum := goodIn_r _ [31, 32] rfl (by decide +kernel)
set_option maxRecDepth 20000 in
theorem gX8_record_X8_sum : GoodIn wsX8_record (va_wsS RX8 84 yX8_sum wsX8_sum) := goodIn_app (goodIn_of _ (by decide +kernel)) ggX8_record_X8_sum
set_option maxRecDepth 20000 in
theorem ggX8_record_X8_at : GoodIn wsX8_record wsX8_at := goodIn_r _ [24] rfl (by decide +kernel)
set_option maxRecDepth 20000 in
theorem gX8_record_X8_at : GoodIn wsX8_record (va_wsS RX8 72 yX8_at wsX8_at) := goodIn_app (goodIn_of _ (by decide +kernel)) ggX8_record_X8_at
set_option maxRecDepth 20000 in
theorem ggX8_record_X8_came : GoodIn wsX8_record wsX8_came := goodIn_r _ [36, 37, 38, 39, 40, 41, 42, 43, 44, 45, 46, 47, 48, 49, 50, 51, 52, 53, 54, 55, 56, 57, 58, 59, 60, 61, 62, 63, 64, 65, 66, 67, 68, 69, 70] rfl (by decide +kernel)
set_option maxRecDepth 20000 in
theorem gX8_record_X8_came : GoodIn wsX8_record (wsV RX8 114 RX8 yX8_came wsX8_came) := goodIn_app (goodIn_of _ (by decide +kernel)) ggX8_record_X8_came
set_option maxRecDepth 20000 in
theorem ggX8_feed_X8_in : GoodIn wsX8_feed wsX8_in := goodIn_r _ [7] rfl (by decide +kernel)
set_option maxRecDepth 20000 in
theorem gX8_feed_X8_in : GoodIn wsX8_feed (va_wsS RX8 125 yX8_in wsX8_in) := goodIn_app (goodIn_of _ (by decide +kernel)) ggX8_feed_X8_in
set_option maxRecDepth 20000 in
theorem ggX8_put_X8_in : GoodIn wsX8_put wsX8_in := goodIn_r _ [11] rfl (by decide +kernel)
set_option maxRecDepth 20000 in
theorem gX8_put_X8_in : GoodIn wsX8_put (va_wsS RX8 125 yX8_in wsX8_in) := goodIn_app (goodIn_of _ (by decide +kernel)) ggX8_put_X8_in
set_option maxRecDepth 20000 in
theorem ggX8_put_X8_opens : GoodIn wsX8_put wsX8_opens := goodIn_r _ [15, 16, 17, 57, 58, 59, 60, 61, 62, 63, 64, 65, 66, 67, 68, 69, 70, 71, 72, 73, 74, 75, 76, 77, 78, 79, 80, 81, 82, 83, 84, 85, 86] rfl (by decide +kernel)
set_option maxRecDepth 20000 in
theorem gX8_put_X8_opens : GoodIn wsX8_put (wsV RX8 118 RX8 yX8_opens wsX8_opens) := goodIn_app (goodIn_of _ (by decide +kernel)) ggX8_put_X8_opens
set_option maxRecDepth 20000 in
theorem ggX8_put_X8_frees : GoodIn wsX8_put wsX8_frees := goodIn_r _ [21, 22, 57, 58, 59, 60, 61, 62, 63, 64, 65, 66, 67, 68, 69, 70, 71, 72, 73, 74, 75, 76, 77, 78, 79, 80, 81, 82, 83, 84, 85, 86] rfl (by decide +kernel)
set_option maxRecDepth 20000 in
theorem gX8_put_X8_frees : GoodIn wsX8_put (wsV RX8 136 RX8 yX8_frees wsX8_frees) := goodIn_app (goodIn_of _ (by decide +kernel)) ggX8_put_X8_frees
set_option maxRecDepth 20000 in
theorem ggX8_put_X8_record : GoodIn wsX8_put wsX8_record := goodIn_r _ [26, 27, 7, 4, 28, 29, 16, 17, 30, 31, 32, 12, 13, 14, 10, 15, 33, 34, 35, 36, 22, 37, 38, 39, 40, 41, 42, 43, 44, 45, 46, 47, 48, 49, 50, 51, 52, 53, 54, 55, 56, 57, 58, 59, 60, 61, 62, 63, 64, 65, 66, 67, 68, 69, 70, 71, 72, 73, 74, 75, 76, 77, 78, 79, 80, 81, 82, 83, 84, 85, 86] rfl (by decide +kernel)
set_option maxRecDepth 20000 in
theorem gX8_put_X8_record : GoodIn wsX8_put (wsV RX8 143 RX8 yX8_record wsX8_record) := goodIn_app (goodIn_of _ (by decide +kernel)) ggX8_put_X8_record
set_option maxRecDepth 20000 in
theorem ggX8_none_X8_in : GoodIn wsX8_none wsX8_in := goodIn_r _ [5] rfl (by decide +kernel)
set_option maxRecDepth 20000 in
theorem gX8_none_X8_in : GoodIn wsX8_none (va_wsS RX8 125 yX8_in wsX8_in) := goodIn_app (goodIn_of _ (by decide +kernel)) ggX8_none_X8_in
set_option maxRecDepth 20000 in
theorem ggX8_remove_X8_none : GoodIn wsX8_remove wsX8_none := goodIn_r _ [9, 10, 11, 12, 8, 13, 59, 60, 61, 62, 63, 64, 65, 66, 67, 68, 69, 70, 71, 72, 73, 74, 75, 76, 77, 78, 79, 80, 81, 82, 83, 84, 85, 86, 87, 88] rfl (by decide +kernel)
set_option maxRecDepth 20000 in
theorem gX8_remove_X8_none : GoodIn wsX8_remove (wsV RX8 147 RX8 yX8_none wsX8_none) := goodIn_app (goodIn_of _ (by decide +kernel)) ggX8_remove_X8_none
set_option maxRecDepth 20000 in
theorem ggX8_size_X8_none : GoodIn wsX8_size wsX8_none := goodIn_r _ [7, 8, 9, 10, 6, 11, 21, 22, 23, 24, 25, 26, 27, 28, 29, 30, 31, 32, 33, 34, 35, 36, 37, 38, 39, 40, 41, 42, 43, 44, 45, 46, 47, 48, 49, 50] rfl (by decide +kernel)
set_option maxRecDepth 20000 in
theorem gX8_size_X8_none : GoodIn wsX8_size (wsV RX8 147 RX8 yX8_none wsX8_none) := goodIn_app (goodIn_of _ (by decide +kernel)) ggX8_size_X8_none
set_option maxRecDepth 20000 in
theorem ggX8_value_X8_none : GoodIn wsX8_value wsX8_none := goodIn_r _ [10, 4, 11, 12, 9, 13, 21, 22, 23, 24, 25, 26, 27, 28, 29, 30, 31, 32, 33, 34, 35, 36, 37, 38, 39, 40, 41, 42, 43, 44, 45, 46, 47, 48, 49, 50] rfl (by decide +kernel)
set_option maxRecDepth 20000 in
theorem gX8_value_X8_none : GoodIn wsX8_value (wsV RX8 147 RX8 yX8_none wsX8_none) := goodIn_app (goodIn_of _ (by decide +kernel)) ggX8_value_X8_none
set_option maxRecDepth 20000 in
theorem ggX8_sync_X8_syncAll : GoodIn wsX8_sync wsX8_syncAll := goodIn_r _ [7, 8, 9, 10, 11, 12, 13, 14, 6, 15, 16, 17, 18, 19, 20, 21, 22, 23, 24, 2, 25, 26, 27, 28, 29, 30, 31, 32, 33, 34, 35, 36, 37, 38, 39, 40, 41, 42, 43, 44, 45, 46, 47, 48, 49, 50, 51, 52, 53, 54] rfl (by decide +kernel)
set_option maxRecDepth 20000 in
theorem gX8_sync_X8_syncAll : GoodIn wsX8_sync (wsV RX8 163 RX8 yX8_syncAll wsX8_syncAll) := goodIn_app (goodIn_of _ (by decide +kernel)) ggX8_sync_X8_syncAll
set_option maxRecDepth 20000 in
theorem ggX8_checkpoint_X8_syncAll : GoodIn wsX8_checkpoint wsX8_syncAll := goodIn_r _ [19, 20, 21, 22, 23, 24, 25, 26, 18, 27, 28, 29, 30, 31, 32, 33, 34, 35, 36, 2, 49, 50, 51, 52, 53, 54, 55, 56, 57, 58, 59, 60, 61, 62, 63, 64, 65, 66, 67, 68, 69, 70, 71, 72, 73, 74, 75, 76, 77, 78] rfl (by decide +kernel)
set_option maxRecDepth 20000 in
theorem gX8_checkpoint_X8_syncAll : GoodIn wsX8_checkpoint (wsV RX8 163 RX8 yX8_syncAll wsX8_syncAll) := goodIn_app (goodIn_of _ (by decide +kernel)) ggX8_checkpoint_X8_syncAll
set_option maxRecDepth 20000 in
theorem ggX8_checkpoint_X8_octets : GoodIn wsX8_checkpoint wsX8_octets := goodIn_r _ [40, 13, 3, 49, 50, 51, 52, 53, 54, 55, 56, 57, 58, 59, 60, 61, 62, 63, 64, 65, 66, 67, 68, 69, 70, 71, 72, 73, 74, 75, 76, 77, 78] rfl (by decide +kernel)
set_option maxRecDepth 20000 in
theorem gX8_checkpoint_X8_octets : GoodIn wsX8_checkpoint (wsV RX8 110 RX8 yX8_octets wsX8_octets) := goodIn_app (goodIn_of _ (by decide +kernel)) ggX8_checkpoint_X8_octets
set_option maxRecDepth 20000 in
theorem ggX8_checkpoint_X8_keys : GoodIn wsX8_checkpoint wsX8_keys := goodIn_r _ [44, 10, 49, 50, 51, 52, 53, 54, 55, 56, 57, 58, 59, 60, 61, 62, 63, 64, 65, 66, 67, 68, 69, 70, 71, 72, 73, 74, 75, 76, 77, 78] rfl (by decide +kernel)
set_option maxRecDepth 20000 in
theorem gX8_checkpoint_X8_keys : GoodIn wsX8_checkpoint (wsV RX8 168 RX8 yX8_keys wsX8_keys) := goodIn_app (goodIn_of _ (by decide +kernel)) ggX8_checkpoint_X8_keys
set_option maxRecDepth 20000 in
theorem ggX8_checkpoint_X8_sum : GoodIn wsX8_checkpoint wsX8_sum := goodIn_r _ [47, 48] rfl (by decide +kernel)
set_option maxRecDepth 20000 in
theorem gX8_checkpoint_X8_sum : GoodIn wsX8_checkpoint (va_wsS RX8 84 yX8_sum wsX8_sum) := goodIn_app (goodIn_of _ (by decide +kernel)) ggX8_checkpoint_X8_sum
set_option maxRecDepth 20000 in
theorem ggX8_checkpoint_X8_write : GoodIn wsX8_checkpoint wsX8_write := goodIn_r _ [31, 32, 33, 34, 35, 36, 2, 49, 50, 51, 52, 53, 54, 55, 56, 57, 58, 59, 60, 61, 62, 63, 64, 65, 66, 67, 68, 69, 70, 71, 72, 73, 74, 75, 76, 77, 78] rfl (by decide +kernel)
set_option maxRecDepth 20000 in
theorem gX8_checkpoint_X8_write : GoodIn wsX8_checkpoint (wsV RX8 159 RX8 yX8_write wsX8_write) := goodIn_app (goodIn_of _ (by decide +kernel)) ggX8_checkpoint_X8_write
set_option maxRecDepth 20000 in
theorem ggX8_clean_X8_in : GoodIn wsX8_clean wsX8_in := goodIn_r _ [15] rfl (by decide +kernel)
set_option maxRecDepth 20000 in
theorem gX8_clean_X8_in : GoodIn wsX8_clean (va_wsS RX8 125 yX8_in wsX8_in) := goodIn_app (goodIn_of _ (by decide +kernel)) ggX8_clean_X8_in
set_option maxRecDepth 20000 in
theorem ggX8_clean_X8_best : GoodIn wsX8_clean wsX8_best := goodIn_r _ [19, 11, 3, 20, 21, 22, 23, 24, 25, 14, 26, 4, 27, 28, 29, 30, 10, 8, 31, 32, 33, 81, 82, 83, 84, 85, 86, 87, 88, 89, 90, 91, 92, 93, 94, 95, 96, 97, 98, 99, 100, 101, 102, 103, 104, 105, 106, 107, 108, 109, 110] rfl (by decide +kernel)
set_option maxRecDepth 20000 in
theorem gX8_clean_X8_best : GoodIn wsX8_clean (wsV RX8 176 RX8 yX8_best wsX8_best) := goodIn_app (goodIn_of _ (by decide +kernel)) ggX8_clean_X8_best
set_option maxRecDepth 20000 in
theorem ggX8_clean_X8_frees : GoodIn wsX8_clean wsX8_frees := goodIn_r _ [48, 11, 81, 82, 83, 84, 85, 86, 87, 88, 89, 90, 91, 92, 93, 94, 95, 96, 97, 98, 99, 100, 101, 102, 103, 104, 105, 106, 107, 108, 109, 110] rfl (by decide +kernel)
set_option maxRecDepth 20000 in
theorem gX8_clean_X8_frees : GoodIn wsX8_clean (wsV RX8 136 RX8 yX8_frees wsX8_frees) := goodIn_app (goodIn_of _ (by decide +kernel)) ggX8_clean_X8_frees
set_option maxRecDepth 20000 in
theorem ggX8_tick_X8_in : GoodIn wsX8_tick wsX8_in := goodIn_r _ [8] rfl (by decide +kernel)
set_option maxRecDepth 20000 in
theorem gX8_tick_X8_in : GoodIn wsX8_tick (va_wsS RX8 125 yX8_in wsX8_in) := goodIn_app (goodIn_of _ (by decide +kernel)) ggX8_tick_X8_in
set_option maxRecDepth 20000 in
theorem ggX8_cut_X8_in : GoodIn wsX8_cut wsX8_in := goodIn_r _ [8] rfl (by decide +kernel)
set_option maxRecDepth 20000 in
theorem gX8_cut_X8_in : GoodIn wsX8_cut (va_wsS RX8 125 yX8_in wsX8_in) := goodIn_app (goodIn_of _ (by decide +kernel)) ggX8_cut_X8_in
set_option maxRecDepth 20000 in
theorem ggX8_isRight_X8_number : GoodIn wsX8_isRight wsX8_number := goodIn_r _ [5] rfl (by decide +kernel)
set_option maxRecDepth 20000 in
theorem gX8_isRight_X8_number : GoodIn wsX8_isRight (va_wsS RX8 76 yX8_number wsX8_number) := goodIn_app (goodIn_of _ (by decide +kernel)) ggX8_isRight_X8_number
set_option maxRecDepth 20000 in
theorem ggX8_goesOn_X8_at : GoodIn wsX8_goesOn wsX8_at := goodIn_r _ [9] rfl (by decide +kernel)
set_option maxRecDepth 20000 in
theorem gX8_goesOn_X8_at : GoodIn wsX8_goesOn (va_wsS RX8 72 yX8_at wsX8_at) := goodIn_app (goodIn_of _ (by decide +kernel)) ggX8_goesOn_X8_at
set_option maxRecDepth 20000 in
theorem ggX8_start_X8_isRight : GoodIn wsX8_start wsX8_isRight := goodIn_r _ [23, 7, 24, 25, 22, 26, 27, 28, 29, 30, 31, 32, 33, 34, 35, 36, 37, 38, 66, 67, 68, 69, 70, 71, 72, 73, 74, 75, 76, 77, 78, 79, 80, 81, 82, 83, 84, 85, 86, 87, 88, 89, 90, 91, 92, 93, 94, 95] rfl (by decide +kernel)
set_option maxRecDepth 20000 in
theorem gX8_start_X8_isRight : GoodIn wsX8_start (wsV RX8 189 RX8 yX8_isRight wsX8_isRight) := goodIn_app (goodIn_of _ (by decide +kernel)) ggX8_start_X8_isRight
set_option maxRecDepth 20000 in
theorem ggX8_start_X8_goesOn : GoodIn wsX8_start wsX8_goesOn := goodIn_r _ [61, 9, 6, 12, 10, 11, 51, 52, 22, 53, 24, 25, 26, 27, 28, 29, 30, 31, 32, 33, 34, 35, 54, 55, 56, 57, 13, 47, 48, 49, 50, 66, 67, 68, 69, 70, 71, 72, 73, 74, 75, 76, 77, 78, 79, 80, 81, 82, 83, 84, 85, 86, 87, 88, 89, 90, 91, 92, 93, 94, 95] rfl (by decide +kernel)
set_option maxRecDepth 20000 in
theorem gX8_start_X8_goesOn : GoodIn wsX8_start (wsV RX8 196 RX8 yX8_goesOn wsX8_goesOn) := goodIn_app (goodIn_of _ (by decide +kernel)) ggX8_start_X8_goesOn
set_option maxRecDepth 20000 in
theorem ggX8_disk_X8_in : GoodIn wsX8_disk wsX8_in := goodIn_r _ [6] rfl (by decide +kernel)
set_option maxRecDepth 20000 in
theorem gX8_disk_X8_in : GoodIn wsX8_disk (va_wsS RX8 125 yX8_in wsX8_in) := goodIn_app (goodIn_of _ (by decide +kernel)) ggX8_disk_X8_in
set_option maxRecDepth 20000 in
theorem ggX8_disk_X8_at : GoodIn wsX8_disk wsX8_at := goodIn_r _ [9] rfl (by decide +kernel)
set_option maxRecDepth 20000 in
theorem gX8_disk_X8_at : GoodIn wsX8_disk (va_wsS RX8 72 yX8_at wsX8_at) := goodIn_app (goodIn_of _ (by decide +kernel)) ggX8_disk_X8_at
set_option maxRecDepth 20000 in
theorem ggX8_poke_X8_in : GoodIn wsX8_poke wsX8_in := goodIn_r _ [6] rfl (by decide +kernel)
set_option maxRecDepth 20000 in
theorem gX8_poke_X8_in : GoodIn wsX8_poke (va_wsS RX8 125 yX8_in wsX8_in) := goodIn_app (goodIn_of _ (by decide +kernel)) ggX8_poke_X8_in
set_option maxRecDepth 20000 in
theorem ggX8_poke_X8_at : GoodIn wsX8_poke wsX8_at := goodIn_r _ [9] rfl (by decide +kernel)
set_option maxRecDepth 20000 in
theorem gX8_poke_X8_at : GoodIn wsX8_poke (va_wsS RX8 72 yX8_at wsX8_at) := goodIn_app (goodIn_of _ (by decide +kernel)) ggX8_poke_X8_at
set_option maxRecDepth 20000 in
theorem ggX8_segment_X8_in : GoodIn wsX8_segment wsX8_in := goodIn_r _ [9] rfl (by decide +kernel)
set_option maxRecDepth 20000 in
theorem gX8_segment_X8_in : GoodIn wsX8_segment (va_wsS RX8 125 yX8_in wsX8_in) := goodIn_app (goodIn_of _ (by decide +kernel)) ggX8_segment_X8_in
set_option maxRecDepth 20000 in
theorem ggX8_where_X8_none : GoodIn wsX8_where wsX8_none := goodIn_r _ [9, 3, 10, 11, 8, 12, 28, 29, 30, 31, 32, 33, 34, 35, 36, 37, 38, 39, 40, 41, 42, 43, 44, 45, 46, 47, 48, 49, 50, 51, 52, 53, 54, 55, 56, 57] rfl (by decide +kernel)
set_option maxRecDepth 20000 in
theorem gX8_where_X8_none : GoodIn wsX8_where (wsV RX8 147 RX8 yX8_none wsX8_none) := goodIn_app (goodIn_of _ (by decide +kernel)) ggX8_where_X8_none
set_option maxRecDepth 20000 in
theorem ggX8_told_X8_in : GoodIn wsX8_told wsX8_in := goodIn_r _ [15] rfl (by decide +kernel)
set_option maxRecDepth 20000 in
theorem gX8_told_X8_in : GoodIn wsX8_told (va_wsS RX8 125 yX8_in wsX8_in) := goodIn_app (goodIn_of _ (by decide +kernel)) ggX8_told_X8_in
set_option maxRecDepth 20000 in
theorem ggX8_told_X8_frees : GoodIn wsX8_told wsX8_frees := goodIn_r _ [19, 20, 26, 27, 28, 29, 30, 31, 32, 33, 34, 35, 36, 37, 38, 39, 40, 41, 42, 43, 44, 45, 46, 47, 48, 49, 50, 51, 52, 53, 54, 55] rfl (by decide +kernel)
set_option maxRecDepth 20000 in
theorem gX8_told_X8_frees : GoodIn wsX8_told (wsV RX8 136 RX8 yX8_frees wsX8_frees) := goodIn_app (goodIn_of _ (by decide +kernel)) ggX8_told_X8_frees
set_option maxRecDepth 20000 in
theorem ggX8_told_X8_keys : GoodIn wsX8_told wsX8_keys := goodIn_r _ [24, 25, 26, 27, 28, 29, 30, 31, 32, 33, 34, 35, 36, 37, 38, 39, 40, 41, 42, 43, 44, 45, 46, 47, 48, 49, 50, 51, 52, 53, 54, 55] rfl (by decide +kernel)
set_option maxRecDepth 20000 in
theorem gX8_told_X8_keys : GoodIn wsX8_told (wsV RX8 168 RX8 yX8_keys wsX8_keys) := goodIn_app (goodIn_of _ (by decide +kernel)) ggX8_told_X8_keys
set_option maxRecDepth 20000 in
theorem ggL_law_X7_init : GoodIn wsL_law wsX7_init := goodIn_r _ [9, 10, 11, 12, 13, 14, 15, 16, 17, 18, 19, 20, 21, 22, 23, 24, 25, 26, 27, 28, 29, 30, 31, 32, 33, 34, 35, 36, 37, 38, 39, 40, 41, 42, 43, 44, 45, 46, 47, 48, 49, 50, 51, 52, 53, 54, 55, 56, 57, 58, 59, 60, 61, 62, 63, 64, 65, 66, 67, 68, 69, 70, 71, 72, 73, 74, 75, 76, 77, 78, 79, 80, 81, 82, 83, 84, 85, 86, 87, 88, 89, 90, 91, 92, 93, 94, 95, 96, 97, 98, 99, 100, 101, 102, 103, 104, 838, 839, 840, 841, 842, 799, 800, 801, 802, 803, 804, 805, 806, 807, 843, 844, 845, 846, 847, 848, 849, 850, 851, 852, 853, 854, 855, 856, 857, 858, 859, 860, 861, 862, 863, 864, 865, 866, 867, 868, 869, 870, 871, 872, 873, 874, 875] rfl (by decide +kernel)
set_option maxRecDepth 20000 in
theorem gL_law_X7_init : GoodIn wsL_law (wsX7_init) := ggL_law_X7_init
set_option maxRecDepth 20000 in
theorem ggL_law_X8_init : GoodIn wsL_law wsX8_init := goodIn_r _ [107, 108, 11, 12, 109, 37, 110, 111, 64, 112, 46, 113, 114, 115, 116, 117, 118, 119, 120, 121, 122, 123, 124, 125, 126, 808, 809, 810, 811, 812, 813, 814, 815, 816, 817, 818, 819, 820, 821, 822, 823, 824, 825, 826, 827, 828, 829, 830, 831, 832, 833, 834, 835, 836, 837] rfl (by decide +kernel)
set_option maxRecDepth 20000 in
theorem gL_law_X8_init : GoodIn wsL_law (wsX8_init) := ggL_law_X8_init
set_option maxRecDepth 20000 in
theorem ggL_law_X7_feed : GoodIn wsL_law wsX7_feed := goodIn_r _ [130, 39, 38, 799, 800, 801, 802, 803, 804, 805, 806, 807] rfl (by decide +kernel)
set_option maxRecDepth 20000 in
theorem gL_law_X7_feed : GoodIn wsL_law (wsV RL 15 RX7 yX7_feed wsX7_feed) := goodIn_app (goodIn_of _ (by decide +kernel)) ggL_law_X7_feed
set_option maxRecDepth 20000 in
theorem ggL_law_X8_feed : GoodIn wsL_law wsX8_feed := goodIn_r _ [134, 135, 136, 120, 137, 138, 5, 139, 808, 809, 810, 811, 812, 813, 814, 815, 816, 817, 818, 819, 820, 821, 822, 823, 824, 825, 826, 827, 828, 829, 830, 831, 832, 833, 834, 835, 836, 837] rfl (by decide +kernel)
set_option maxRecDepth 20000 in
theorem gL_law_X8_feed : GoodIn wsL_law (wsV RL 19 RX8 yX8_feed wsX8_feed) := goodIn_app (goodIn_of _ (by decide +kernel)) ggL_law_X8_feed
set_option maxRecDepth 20000 in
theorem ggL_law_X7_put : GoodIn wsL_law wsX7_put := goodIn_r _ [143, 40, 24, 39, 38, 144, 145, 2, 146, 147, 148, 149, 23, 150, 151, 152, 153, 154, 71, 72, 155, 156, 157, 158, 63, 159, 160, 161, 162, 74, 62, 76, 163, 164, 165, 166, 73, 167, 168, 169, 170, 171, 172, 173, 174, 175, 176, 177, 178, 179, 180, 65, 181, 182, 183, 184, 185, 186, 187, 188, 189, 190, 191, 192, 193, 194, 195, 196, 197, 198, 199, 200, 201, 202, 203, 204, 205, 206, 70, 67, 68, 69, 207, 208, 209, 210, 211, 212, 213, 214, 215, 216, 19, 217, 54, 56, 55, 218, 219, 220, 221, 66, 799, 800, 801, 802, 803, 804, 805, 806, 807, 846, 847, 848, 849, 850, 851, 852, 853, 854, 855, 856, 857, 858, 859, 843, 844, 845] rfl (by decide +kernel)
set_option maxRecDepth 20000 in
theorem gL_law_X7_put : GoodIn wsL_law (wsV RL 20 RX7 yX7_put wsX7_put) := goodIn_app (goodIn_of _ (by decide +kernel)) ggL_law_X7_put
set_option maxRecDepth 20000 in
theorem ggL_law_X8_put : GoodIn wsL_law wsX8_put := goodIn_r _ [225, 135, 226, 136, 123, 120, 227, 114, 137, 138, 5, 139, 228, 229, 230, 231, 232, 233, 234, 235, 236, 237, 113, 238, 239, 240, 241, 242, 121, 111, 115, 116, 122, 243, 244, 245, 246, 247, 248, 249, 250, 251, 252, 253, 254, 255, 256, 257, 258, 259, 260, 261, 262, 263, 117, 119, 118, 808, 809, 810, 811, 812, 813, 814, 815, 816, 817, 818, 819, 820, 821, 822, 823, 824, 825, 826, 827, 828, 829, 830, 831, 832, 833, 834, 835, 836, 837] rfl (by decide +kernel)
set_option maxRecDepth 20000 in
theorem gL_law_X8_put : GoodIn wsL_law (wsV RL 24 RX8 yX8_put wsX8_put) := goodIn_app (goodIn_of _ (by decide +kernel)) ggL_law_X8_put
set_option maxRecDepth 20000 in
theorem ggL_law_X7_remove : GoodIn wsL_law wsX7_remove := goodIn_r _ [267, 40, 20, 24, 38, 268, 269, 270, 19, 271, 54, 145, 2, 146, 175, 176, 147, 148, 149, 23, 150, 151, 152, 153, 154, 71, 72, 155, 156, 157, 158, 63, 159, 160, 161, 162, 74, 62, 76, 163, 164, 165, 166, 73, 167, 168, 169, 170, 171, 172, 173, 174, 177, 178, 179, 180, 65, 181, 182, 183, 184, 185, 186, 187, 188, 189, 190, 191, 192, 193, 194, 195, 196, 197, 198, 199, 200, 201, 202, 203, 204, 205, 206, 70, 67, 68, 69, 207, 208, 209, 210, 211, 212, 213, 214, 215, 216, 217, 56, 55, 218, 219, 220, 221, 66, 799, 800, 801, 802, 803, 804, 805, 806, 807, 846, 847, 848, 849, 850, 851, 852, 853, 854, 855, 856, 857, 858, 859, 843, 844, 845] rfl (by decide +kernel)
set_option maxRecDepth 20000 in
theorem gL_law_X7_remove : GoodIn wsL_law (wsV RL 25 RX7 yX7_remove wsX7_remove) := goodIn_app (goodIn_of _ (by decide +kernel)) ggL_law_X7_remove
set_option maxRecDepth 20000 in
theorem ggL_law_X8_remove : GoodIn wsL_law wsX8_remove := goodIn_r _ [275, 135, 226, 227, 114, 276, 277, 278, 5, 279, 115, 137, 138, 139, 228, 229, 230, 231, 232, 233, 234, 235, 236, 237, 113, 238, 239, 240, 241, 242, 123, 121, 111, 116, 122, 243, 244, 245, 246, 247, 248, 249, 250, 251, 252, 253, 254, 255, 256, 257, 258, 259, 260, 261, 262, 263, 117, 119, 118, 808, 809, 810, 811, 812, 813, 814, 815, 816, 817, 818, 819, 820, 821, 822, 823, 824, 825, 826, 827, 828, 829, 830, 831, 832, 833, 834, 835, 836, 837] rfl (by decide +kernel)
set_option maxRecDepth 20000 in
theorem gL_law_X8_remove : GoodIn wsL_law (wsV RL 28 RX8 yX8_remove wsX8_remove) := goodIn_app (goodIn_of _ (by decide +kernel)) ggL_law_X8_remove
set_option maxRecDepth 20000 in
theorem ggL_law_X7_size : GoodIn wsL_law wsX7_size := goodIn_r _ [283, 40, 20, 24, 268, 269, 270, 19, 271, 54, 145, 2, 146, 175, 176, 284, 285, 286, 23, 287, 62, 76, 288, 289, 290, 291, 55, 292, 293, 183, 294, 185, 186, 187, 799, 800, 801, 802, 803, 804, 805, 806, 807, 843, 844, 845, 846, 847, 848, 849, 850, 851, 852, 853, 854, 855, 856, 857, 858, 859] rfl (by decide +kernel)
set_option maxRecDepth 20000 in
theorem gL_law_X7_size : GoodIn wsL_law (wsV RL 29 RX7 yX7_size wsX7_size) := goodIn_app (goodIn_of _ (by decide +kernel)) ggL_law_X7_size
set_option maxRecDepth 20000 in
theorem ggL_law_X8_size : GoodIn wsL_law wsX8_size := goodIn_r _ [298, 135, 226, 276, 277, 278, 5, 279, 115, 137, 138, 139, 299, 300, 301, 302, 111, 116, 248, 249, 250, 808, 809, 810, 811, 812, 813, 814, 815, 816, 817, 818, 819, 820, 821, 822, 823, 824, 825, 826, 827, 828, 829, 830, 831, 832, 833, 834, 835, 836, 837] rfl (by decide +kernel)
set_option maxRecDepth 20000 in
theorem gL_law_X8_size : GoodIn wsL_law (wsV RL 32 RX8 yX8_size wsX8_size) := goodIn_app (goodIn_of _ (by decide +kernel)) ggL_law_X8_size
set_option maxRecDepth 20000 in
theorem ggL_law_X7_value : GoodIn wsL_law wsX7_value := goodIn_r _ [306, 40, 20, 24, 268, 269, 270, 19, 271, 54, 145, 2, 146, 175, 176, 284, 285, 286, 23, 287, 62, 76, 288, 289, 290, 291, 55, 292, 293, 183, 294, 185, 186, 187, 307, 308, 799, 800, 801, 802, 803, 804, 805, 806, 807, 846, 847, 848, 849, 850, 851, 852, 853, 854, 855, 856, 857, 858, 859, 843, 844, 845] rfl (by decide +kernel)
set_option maxRecDepth 20000 in
theorem gL_law_X7_value : GoodIn wsL_law (wsV RL 33 RX7 yX7_value wsX7_value) := goodIn_app (goodIn_of _ (by decide +kernel)) ggL_law_X7_value
set_option maxRecDepth 20000 in
theorem ggL_law_X8_value : GoodIn wsL_law wsX8_value := goodIn_r _ [312, 135, 226, 111, 115, 116, 276, 277, 278, 5, 279, 137, 138, 139, 299, 300, 301, 302, 248, 249, 250, 808, 809, 810, 811, 812, 813, 814, 815, 816, 817, 818, 819, 820, 821, 822, 823, 824, 825, 826, 827, 828, 829, 830, 831, 832, 833, 834, 835, 836, 837] rfl (by decide +kernel)
set_option maxRecDepth 20000 in
theorem gL_law_X8_value : GoodIn wsL_law (wsV RL 37 RX8 yX8_value wsX8_value) := goodIn_app (goodIn_of _ (by decide +kernel)) ggL_law_X8_value
set_option maxRecDepth 20000 in
theorem ggL_law_X7_sync : GoodIn wsL_law wsX7_sync := goodIn_r _ [316, 40, 24, 16, 317, 318, 319, 23, 320, 70, 67, 321, 322, 323, 324, 68, 69, 325, 326, 327, 328, 329, 330, 331, 332, 62, 333, 334, 335, 15, 336, 47, 49, 45, 50, 48, 337, 338, 208, 183, 209, 210, 211, 212, 213, 185, 186, 187, 799, 800, 801, 802, 803, 804, 805, 806, 807, 846, 847, 848, 849, 850, 851, 852, 853, 854, 855, 856, 857, 858, 859, 838, 839, 840, 841, 842] rfl (by decide +kernel)
set_option maxRecDepth 20000 in
theorem gL_law_X7_sync : GoodIn wsL_law (wsV RL 38 RX7 yX7_sync wsX7_sync) := goodIn_app (goodIn_of _ (by decide +kernel)) ggL_law_X7_sync
set_option maxRecDepth 20000 in
theorem ggL_law_X8_sync : GoodIn wsL_law wsX8_sync := goodIn_r _ [342, 135, 226, 343, 344, 345, 5, 346, 263, 119, 117, 111, 118, 248, 249, 250, 347, 348, 349, 350, 351, 352, 353, 110, 112, 808, 809, 810, 811, 812, 813, 814, 815, 816, 817, 818, 819, 820, 821, 822, 823, 824, 825, 826, 827, 828, 829, 830, 831, 832, 833, 834, 835, 836, 837] rfl (by decide +kernel)
set_option maxRecDepth 20000 in
theorem gL_law_X8_sync : GoodIn wsL_law (wsV RL 42 RX8 yX8_sync wsX8_sync) := goodIn_app (goodIn_of _ (by decide +kernel)) ggL_law_X8_sync
set_option maxRecDepth 20000 in
theorem ggL_law_X7_checkpoint : GoodIn wsL_law wsX7_checkpoint := goodIn_r _ [357, 40, 24, 16, 32, 317, 318, 319, 23, 320, 70, 67, 321, 322, 323, 324, 68, 69, 325, 326, 327, 328, 329, 330, 331, 332, 62, 333, 334, 335, 15, 336, 47, 49, 45, 50, 48, 337, 338, 208, 183, 209, 210, 211, 212, 213, 185, 186, 187, 358, 359, 360, 31, 361, 94, 93, 91, 92, 362, 363, 364, 365, 95, 96, 366, 367, 368, 369, 370, 189, 190, 371, 269, 270, 19, 271, 54, 145, 2, 146, 175, 176, 372, 373, 374, 375, 376, 377, 378, 379, 55, 380, 381, 382, 383, 63, 384, 192, 193, 194, 195, 196, 197, 198, 199, 200, 201, 202, 385, 386, 387, 388, 389, 799, 800, 801, 802, 803, 804, 805, 806, 807, 866, 867, 868, 869, 870, 871, 846, 847, 848, 849, 850, 851, 852, 853, 854, 855, 856, 857, 858, 859, 838, 839, 840, 841, 842, 843, 844, 845] rfl (by decide +kernel)
set_option maxRecDepth 20000 in
theorem gL_law_X7_checkpoint : GoodIn wsL_law (wsV RL 43 RX7 yX7_checkpoint wsX7_checkpoint) := goodIn_app (goodIn_of _ (by decide +kernel)) ggL_law_X7_checkpoint
set_option maxRecDepth 20000 in
theorem ggL_law_X8_checkpoint : GoodIn wsL_law wsX8_checkpoint := goodIn_r _ [393, 135, 226, 242, 394, 114, 227, 232, 233, 247, 115, 116, 113, 121, 126, 343, 344, 345, 5, 346, 263, 119, 117, 111, 118, 248, 249, 250, 347, 348, 349, 350, 351, 352, 353, 110, 112, 251, 252, 253, 254, 395, 396, 397, 398, 255, 256, 257, 258, 808, 809, 810, 811, 812, 813, 814, 815, 816, 817, 818, 819, 820, 821, 822, 823, 824, 825, 826, 827, 828, 829, 830, 831, 832, 833, 834, 835, 836, 837] rfl (by decide +kernel)
set_option maxRecDepth 20000 in
theorem gL_law_X8_checkpoint : GoodIn wsL_law (wsV RL 46 RX8 yX8_checkpoint wsX8_checkpoint) := goodIn_app (goodIn_of _ (by decide +kernel)) ggL_law_X8_checkpoint
set_option maxRecDepth 20000 in
theorem ggL_law_X7_clean : GoodIn wsL_law wsX7_clean := goodIn_r _ [402, 40, 28, 403, 404, 405, 27, 406, 85, 84, 83, 81, 407, 408, 409, 410, 411, 412, 413, 414, 415, 416, 417, 418, 82, 86, 419, 420, 368, 421, 422, 269, 270, 19, 271, 54, 145, 2, 146, 175, 176, 423, 373, 374, 375, 424, 285, 286, 23, 287, 62, 76, 288, 289, 290, 291, 55, 292, 293, 183, 294, 185, 186, 187, 425, 426, 427, 428, 429, 430, 431, 432, 71, 63, 433, 434, 435, 436, 437, 438, 439, 440, 441, 442, 443, 444, 65, 66, 445, 446, 447, 448, 449, 450, 451, 452, 453, 454, 455, 456, 457, 458, 459, 460, 461, 462, 463, 464, 465, 466, 467, 468, 469, 156, 157, 158, 470, 471, 472, 473, 474, 475, 160, 161, 162, 74, 72, 151, 152, 153, 154, 163, 164, 165, 166, 73, 167, 168, 169, 170, 171, 172, 173, 174, 177, 178, 179, 180, 181, 182, 184, 188, 189, 190, 191, 192, 193, 194, 195, 196, 197, 198, 199, 200, 201, 202, 203, 204, 205, 206, 70, 67, 68, 69, 207, 208, 209, 210, 211, 212, 213, 214, 215, 216, 217, 56, 218, 219, 220, 221, 476, 477, 478, 479, 799, 800, 801, 802, 803, 804, 805, 806, 807, 860, 861, 862, 863, 864, 865, 843, 844, 845, 846, 847, 848, 849, 850, 851, 852, 853, 854, 855, 856, 857, 858, 859] rfl (by decide +kernel)
set_option maxRecDepth 20000 in
theorem gL_law_X7_clean : GoodIn wsL_law (wsV RL 47 RX7 yX7_clean wsX7_clean) := goodIn_app (goodIn_of _ (by decide +kernel)) ggL_law_X7_clean
set_option maxRecDepth 20000 in
theorem ggL_law_X8_clean : GoodIn wsL_law wsX8_clean := goodIn_r _ [483, 135, 226, 124, 115, 125, 232, 233, 116, 123, 111, 113, 137, 138, 5, 139, 484, 485, 486, 487, 488, 227, 122, 489, 490, 491, 492, 299, 300, 301, 302, 248, 249, 250, 493, 494, 495, 496, 497, 498, 499, 500, 501, 502, 503, 234, 235, 236, 237, 238, 239, 240, 241, 242, 114, 121, 228, 229, 230, 231, 243, 244, 245, 246, 247, 251, 252, 253, 254, 255, 256, 257, 258, 259, 260, 261, 262, 263, 117, 119, 118, 808, 809, 810, 811, 812, 813, 814, 815, 816, 817, 818, 819, 820, 821, 822, 823, 824, 825, 826, 827, 828, 829, 830, 831, 832, 833, 834, 835, 836, 837] rfl (by decide +kernel)
set_option maxRecDepth 20000 in
theorem gL_law_X8_clean : GoodIn wsL_law (wsV RL 50 RX8 yX8_clean wsX8_clean) := goodIn_app (goodIn_of _ (by decide +kernel)) ggL_law_X8_clean
set_option maxRecDepth 20000 in
theorem ggL_law_X7_tick : GoodIn wsL_law wsX7_tick := goodIn_r _ [507, 40, 508, 24, 799, 800, 801, 802, 803, 804, 805, 806, 807, 846, 847, 848, 849, 850, 851, 852, 853, 854, 855, 856, 857, 858, 859] rfl (by decide +kernel)
set_option maxRecDepth 20000 in
theorem gL_law_X7_tick : GoodIn wsL_law (wsV RL 51 RX7 yX7_tick wsX7_tick) := goodIn_app (goodIn_of _ (by decide +kernel)) ggL_law_X7_tick
set_option maxRecDepth 20000 in
theorem ggL_law_X8_tick : GoodIn wsL_law wsX8_tick := goodIn_r _ [512, 135, 226, 513, 227, 137, 138, 5, 139, 808, 809, 810, 811, 812, 813, 814, 815, 816, 817, 818, 819, 820, 821, 822, 823, 824, 825, 826, 827, 828, 829, 830, 831, 832, 833, 834, 835, 836, 837] rfl (by decide +kernel)
set_option maxRecDepth 20000 in
theorem gL_law_X8_tick : GoodIn wsL_law (wsV RL 54 RX8 yX8_tick wsX8_tick) := goodIn_app (goodIn_of _ (by decide +kernel)) ggL_law_X8_tick
set_option maxRecDepth 20000 in
theorem ggL_law_X7_cut : GoodIn wsL_law wsX7_cut := goodIn_r _ [517, 40, 16, 518, 519, 520, 15, 521, 49, 50, 799, 800, 801, 802, 803, 804, 805, 806, 807, 838, 839, 840, 841, 842] rfl (by decide +kernel)
set_option maxRecDepth 20000 in
theorem gL_law_X7_cut : GoodIn wsL_law (wsV RL 55 RX7 yX7_cut wsX7_cut) := goodIn_app (goodIn_of _ (by decide +kernel)) ggL_law_X7_cut
set_option maxRecDepth 20000 in
theorem ggL_law_X8_cut : GoodIn wsL_law wsX8_cut := goodIn_r _ [525, 135, 226, 351, 353, 137, 138, 5, 139, 808, 809, 810, 811, 812, 813, 814, 815, 816, 817, 818, 819, 820, 821, 822, 823, 824, 825, 826, 827, 828, 829, 830, 831, 832, 833, 834, 835, 836, 837] rfl (by decide +kernel)
set_option maxRecDepth 20000 in
theorem gL_law_X8_cut : GoodIn wsL_law (wsV RL 58 RX8 yX8_cut wsX8_cut) := goodIn_app (goodIn_of _ (by decide +kernel)) ggL_law_X8_cut
set_option maxRecDepth 20000 in
theorem ggL_law_X7_start : GoodIn wsL_law wsX7_start := goodIn_r _ [529, 16, 40, 36, 518, 519, 520, 15, 521, 49, 50, 530, 531, 532, 35, 533, 102, 104, 103, 534, 535, 536, 23, 537, 63, 70, 71, 72, 73, 74, 75, 538, 420, 368, 421, 539, 540, 541, 31, 542, 92, 93, 543, 544, 545, 19, 546, 54, 55, 56, 547, 548, 549, 550, 551, 552, 553, 554, 555, 94, 556, 557, 558, 559, 560, 293, 183, 294, 185, 186, 187, 561, 562, 563, 564, 45, 565, 566, 567, 195, 196, 197, 198, 199, 200, 201, 568, 569, 570, 571, 47, 572, 573, 327, 574, 337, 326, 328, 575, 576, 577, 578, 579, 580, 581, 582, 175, 2, 176, 583, 584, 585, 586, 145, 146, 587, 588, 589, 590, 591, 592, 593, 594, 95, 595, 596, 597, 598, 599, 600, 172, 173, 174, 601, 602, 603, 604, 605, 606, 607, 608, 609, 610, 611, 612, 613, 614, 615, 616, 617, 618, 619, 620, 621, 622, 623, 624, 625, 101, 626, 627, 628, 629, 630, 631, 632, 633, 634, 635, 636, 637, 638, 639, 640, 381, 382, 383, 641, 642, 643, 644, 645, 215, 216, 217, 646, 647, 648, 649, 650, 651, 652, 653, 654, 655, 656, 657, 658, 659, 660, 661, 662, 663, 664, 665, 666, 667, 668, 669, 670, 671, 672, 673, 674, 675, 676, 677, 678, 679, 62, 680, 207, 208, 209, 210, 211, 212, 213, 181, 182, 184, 681, 178, 179, 180, 65, 682, 683, 684, 685, 686, 219, 220, 221, 66, 799, 800, 801, 802, 803, 804, 805, 806, 807, 838, 839, 840, 841, 842, 872, 873, 874, 875, 846, 847, 848, 849, 850, 851, 852, 853, 854, 855, 856, 857, 858, 859, 866, 867, 868, 869, 870, 871, 843, 844, 845] rfl (by decide +kernel)
set_option maxRecDepth 20000 in
theorem gL_law_X7_start : GoodIn wsL_law (wsV RL 59 RX7 yX7_start wsX7_start) := goodIn_app (goodIn_of _ (by decide +kernel)) ggL_law_X7_start
set_option maxRecDepth 20000 in
theorem ggL_law_X8_start : GoodIn wsL_law wsX8_start := goodIn_r _ [690, 135, 226, 351, 263, 109, 111, 110, 115, 113, 232, 233, 247, 114, 227, 394, 126, 116, 122, 691, 692, 693, 5, 694, 497, 498, 499, 695, 696, 697, 698, 112, 255, 256, 257, 258, 137, 138, 139, 699, 700, 701, 702, 703, 704, 705, 706, 707, 708, 709, 710, 248, 249, 250, 711, 712, 713, 714, 715, 716, 717, 718, 719, 720, 721, 722, 808, 809, 810, 811, 812, 813, 814, 815, 816, 817, 818, 819, 820, 821, 822, 823, 824, 825, 826, 827, 828, 829, 830, 831, 832, 833, 834, 835, 836, 837] rfl (by decide +kernel)
set_option maxRecDepth 20000 in
theorem gL_law_X8_start : GoodIn wsL_law (wsV RL 62 RX8 yX8_start wsX8_start) := goodIn_app (goodIn_of _ (by decide +kernel)) ggL_law_X8_start
set_option maxRecDepth 20000 in
theorem ggL_law_X7_disk : GoodIn wsL_law wsX7_disk := goodIn_r _ [726, 16, 727, 728, 2, 729, 308, 293, 183, 294, 185, 186, 187, 799, 800, 801, 802, 803, 804, 805, 806, 807, 838, 839, 840, 841, 842] rfl (by decide +kernel)
set_option maxRecDepth 20000 in
theorem gL_law_X7_disk : GoodIn wsL_law (wsV RL 63 RX7 yX7_disk wsX7_disk) := goodIn_app (goodIn_of _ (by decide +kernel)) ggL_law_X7_disk
set_option maxRecDepth 20000 in
theorem ggL_law_X8_disk : GoodIn wsL_law wsX8_disk := goodIn_r _ [733, 135, 110, 137, 138, 5, 139, 248, 249, 250, 808, 809, 810, 811, 812, 813, 814, 815, 816, 817, 818, 819, 820, 821, 822, 823, 824, 825, 826, 827, 828, 829, 830, 831, 832, 833, 834, 835, 836, 837] rfl (by decide +kernel)
set_option maxRecDepth 20000 in
theorem gL_law_X8_disk : GoodIn wsL_law (wsV RL 66 RX8 yX8_disk wsX8_disk) := goodIn_app (goodIn_of _ (by decide +kernel)) ggL_law_X8_disk
set_option maxRecDepth 20000 in
theorem ggL_law_X7_poke : GoodIn wsL_law wsX7_poke := goodIn_r _ [737, 16, 727, 728, 2, 729, 738, 739, 740, 15, 741, 45, 566, 293, 183, 294, 185, 186, 187, 742, 189, 190, 799, 800, 801, 802, 803, 804, 805, 806, 807, 838, 839, 840, 841, 842] rfl (by decide +kernel)
set_option maxRecDepth 20000 in
theorem gL_law_X7_poke : GoodIn wsL_law (wsV RL 67 RX7 yX7_poke wsX7_poke) := goodIn_app (goodIn_of _ (by decide +kernel)) ggL_law_X7_poke
set_option maxRecDepth 20000 in
theorem ggL_law_X8_poke : GoodIn wsL_law wsX8_poke := goodIn_r _ [746, 135, 110, 137, 138, 5, 139, 248, 249, 250, 808, 809, 810, 811, 812, 813, 814, 815, 816, 817, 818, 819, 820, 821, 822, 823, 824, 825, 826, 827, 828, 829, 830, 831, 832, 833, 834, 835, 836, 837] rfl (by decide +kernel)
set_option maxRecDepth 20000 in
theorem gL_law_X8_poke : GoodIn wsL_law (wsV RL 71 RX8 yX8_poke wsX8_poke) := goodIn_app (goodIn_of _ (by decide +kernel)) ggL_law_X8_poke
set_option maxRecDepth 20000 in
theorem ggL_law_X7_segment : GoodIn wsL_law wsX7_segment := goodIn_r _ [750, 40, 24, 751, 175, 2, 176, 752, 430, 431, 23, 432, 71, 63, 753, 381, 382, 383, 754, 755, 756, 757, 76, 758, 269, 270, 19, 271, 54, 145, 146, 759, 373, 374, 375, 760, 285, 286, 287, 62, 288, 289, 290, 291, 55, 292, 293, 183, 294, 185, 186, 187, 761, 442, 443, 444, 65, 66, 762, 763, 764, 765, 799, 800, 801, 802, 803, 804, 805, 806, 807, 846, 847, 848, 849, 850, 851, 852, 853, 854, 855, 856, 857, 858, 859, 843, 844, 845] rfl (by decide +kernel)
set_option maxRecDepth 20000 in
theorem gL_law_X7_segment : GoodIn wsL_law (wsV RL 72 RX7 yX7_segment wsX7_segment) := goodIn_app (goodIn_of _ (by decide +kernel)) ggL_law_X7_segment
set_option maxRecDepth 20000 in
theorem ggL_law_X8_segment : GoodIn wsL_law wsX8_segment := goodIn_r _ [769, 135, 226, 113, 122, 111, 137, 138, 5, 139, 489, 490, 491, 492, 115, 299, 300, 301, 302, 116, 248, 249, 250, 497, 498, 499, 808, 809, 810, 811, 812, 813, 814, 815, 816, 817, 818, 819, 820, 821, 822, 823, 824, 825, 826, 827, 828, 829, 830, 831, 832, 833, 834, 835, 836, 837] rfl (by decide +kernel)
set_option maxRecDepth 20000 in
theorem gL_law_X8_segment : GoodIn wsL_law (wsV RL 75 RX8 yX8_segment wsX8_segment) := goodIn_app (goodIn_of _ (by decide +kernel)) ggL_law_X8_segment
set_option maxRecDepth 20000 in
theorem ggL_law_X7_where : GoodIn wsL_law wsX7_where := goodIn_r _ [773, 40, 20, 24, 268, 269, 270, 19, 271, 54, 145, 2, 146, 175, 176, 774, 373, 374, 375, 775, 377, 378, 379, 55, 776, 462, 463, 23, 464, 62, 76, 288, 289, 290, 291, 292, 293, 183, 294, 185, 186, 187, 777, 458, 459, 460, 799, 800, 801, 802, 803, 804, 805, 806, 807, 843, 844, 845, 846, 847, 848, 849, 850, 851, 852, 853, 854, 855, 856, 857, 858, 859] rfl (by decide +kernel)
set_option maxRecDepth 20000 in
theorem gL_law_X7_where : GoodIn wsL_law (wsV RL 76 RX7 yX7_where wsX7_where) := goodIn_app (goodIn_of _ (by decide +kernel)) ggL_law_X7_where
set_option maxRecDepth 20000 in
theorem ggL_law_X8_where : GoodIn wsL_law wsX8_where := goodIn_r _ [781, 135, 226, 115, 116, 276, 277, 278, 5, 279, 137, 138, 139, 500, 501, 502, 503, 111, 248, 249, 250, 497, 498, 499, 493, 494, 495, 496, 808, 809, 810, 811, 812, 813, 814, 815, 816, 817, 818, 819, 820, 821, 822, 823, 824, 825, 826, 827, 828, 829, 830, 831, 832, 833, 834, 835, 836, 837] rfl (by decide +kernel)
set_option maxRecDepth 20000 in
theorem gL_law_X8_where : GoodIn wsL_law (wsV RL 79 RX8 yX8_where wsX8_where) := goodIn_app (goodIn_of _ (by decide +kernel)) ggL_law_X8_where
set_option maxRecDepth 20000 in
theorem ggL_law_X7_told : GoodIn wsL_law wsX7_told := goodIn_r _ [785, 40, 16, 786, 787, 788, 2, 789, 24, 20, 32, 790, 156, 157, 23, 158, 63, 791, 792, 793, 794, 70, 69, 67, 68, 799, 800, 801, 802, 803, 804, 805, 806, 807, 838, 839, 840, 841, 842, 846, 847, 848, 849, 850, 851, 852, 853, 854, 855, 856, 857, 858, 859, 843, 844, 845, 866, 867, 868, 869, 870, 871] rfl (by decide +kernel)
set_option maxRecDepth 20000 in
theorem gL_law_X7_told : GoodIn wsL_law (wsV RL 80 RX7 yX7_told wsX7_told) := goodIn_app (goodIn_of _ (by decide +kernel)) ggL_law_X7_told
set_option maxRecDepth 20000 in
theorem ggL_law_X8_told : GoodIn wsL_law wsX8_told := goodIn_r _ [798, 135, 352, 226, 114, 227, 232, 233, 263, 119, 118, 394, 137, 138, 5, 139, 234, 235, 236, 237, 113, 395, 396, 397, 398, 115, 808, 809, 810, 811, 812, 813, 814, 815, 816, 817, 818, 819, 820, 821, 822, 823, 824, 825, 826, 827, 828, 829, 830, 831, 832, 833, 834, 835, 836, 837] rfl (by decide +kernel)
set_option maxRecDepth 20000 in
theorem gL_law_X8_told : GoodIn wsL_law (wsV RL 83 RX8 yX8_told wsX8_told) := goodIn_app (goodIn_of _ (by decide +kernel)) ggL_law_X8_told
