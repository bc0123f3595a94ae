set_option maxRecDepth 20000 in
theorem ggX0_feed_X0_hasRoom : GoodIn wsX0_feed wsX0_hasRoom := goodIn_r _ [10, 5, 16, 17, 18, 19, 20, 21] (by decide +kernel) (by decide +kernel)
set_option maxRecDepth 20000 in
theorem gX0_feed_X0_hasRoom : GoodIn wsX0_feed (wsV RX0 37 RX0 yX0_hasRoom wsX0_hasRoom) := goodIn_app (goodIn_of _ (by decide +kernel)) ggX0_feed_X0_hasRoom
set_option maxRecDepth 20000 in
theorem ggX0_feed_X0_append : GoodIn wsX0_feed wsX0_append := goodIn_r _ [14, 15, 5, 16, 17, 18, 19, 20, 21] (by decide +kernel) (by decide +kernel)
set_option maxRecDepth 20000 in
theorem gX0_feed_X0_append : GoodIn wsX0_feed (wsV RX0 46 RX0 yX0_append wsX0_append) := goodIn_app (goodIn_of _ (by decide +kernel)) ggX0_feed_X0_append
set_option maxRecDepth 20000 in
theorem ggX0_put_X0_hasRoom : GoodIn wsX0_put wsX0_hasRoom := goodIn_r _ [10, 5, 16, 17, 18, 19, 20, 21] (by decide +kernel) (by decide +kernel)
set_option maxRecDepth 20000 in
theorem gX0_put_X0_hasRoom : GoodIn wsX0_put (wsV RX0 37 RX0 yX0_hasRoom wsX0_hasRoom) := goodIn_app (goodIn_of _ (by decide +kernel)) ggX0_put_X0_hasRoom
set_option maxRecDepth 20000 in
theorem ggX0_put_X0_append : GoodIn wsX0_put wsX0_append := goodIn_r _ [14, 15, 5, 16, 17, 18, 19, 20, 21] (by decide +kernel) (by decide +kernel)
set_option maxRecDepth 20000 in
theorem gX0_put_X0_append : GoodIn wsX0_put (wsV RX0 46 RX0 yX0_append wsX0_append) := goodIn_app (goodIn_of _ (by decide +kernel)) ggX0_put_X0_append
set_option maxRecDepth 20000 in
theorem ggX0_byteAt_X0_storedByte : GoodIn wsX0_byteAt wsX0_storedByte := goodIn_r _ [8, 9, 10, 11, 12, 13, 14, 15] (by decide +kernel) (by decide +kernel)
set_option maxRecDepth 20000 in
theorem gX0_byteAt_X0_storedByte : GoodIn wsX0_byteAt (wsV RX0 58 RX0 yX0_storedByte wsX0_storedByte) := goodIn_app (goodIn_of _ (by decide +kernel)) ggX0_byteAt_X0_storedByte
set_option maxRecDepth 20000 in
theorem ggX0_next_X0_lookAt : GoodIn wsX0_next wsX0_lookAt := goodIn_r _ [7, 8, 9, 10, 11, 12, 6, 13, 14, 15, 16, 17, 18, 19, 20, 21, 22, 23, 24, 25, 26, 27, 28, 29, 30, 31, 32, 33, 34, 35, 36, 37, 38, 39, 40, 41, 42, 43, 44, 45, 46, 47, 48, 49, 50, 51, 52, 53, 85, 86, 87, 88, 89, 90] (by decide +kernel) (by decide +kernel)
set_option maxRecDepth 20000 in
theorem gX0_next_X0_lookAt : GoodIn wsX0_next (wsV RX0 62 RX0 yX0_lookAt wsX0_lookAt) := goodIn_app (goodIn_of _ (by decide +kernel)) ggX0_next_X0_lookAt
set_option maxRecDepth 20000 in
theorem ggX0_next_X0_childrenAt : GoodIn wsX0_next wsX0_childrenAt := goodIn_r _ [57, 58, 47, 48, 49, 6, 50, 10, 11, 12, 13, 14, 25, 26, 27, 28, 29, 30, 31, 32, 18, 19, 20, 21, 33, 34, 35, 36, 37, 38, 39, 40, 41, 42, 85, 86, 87, 88, 89, 90] (by decide +kernel) (by decide +kernel)
set_option maxRecDepth 20000 in
theorem gX0_next_X0_childrenAt : GoodIn wsX0_next (wsV RX0 65 RX0 yX0_childrenAt wsX0_childrenAt) := goodIn_app (goodIn_of _ (by decide +kernel)) ggX0_next_X0_childrenAt
set_option maxRecDepth 20000 in
theorem ggX0_next_X0_countChild : GoodIn wsX0_next wsX0_countChild := goodIn_r _ [62, 2, 63, 85, 86, 87, 88, 89, 90] (by decide +kernel) (by decide +kernel)
set_option maxRecDepth 20000 in
theorem gX0_next_X0_countChild : GoodIn wsX0_next (wsV RX0 69 RX0 yX0_countChild wsX0_countChild) := goodIn_app (goodIn_of _ (by decide +kernel)) ggX0_next_X0_countChild
set_option maxRecDepth 20000 in
theorem ggX0_next_X0_openContainer : GoodIn wsX0_next wsX0_openContainer := goodIn_r _ [67, 2, 63, 85, 86, 87, 88, 89, 90] (by decide +kernel) (by decide +kernel)
set_option maxRecDepth 20000 in
theorem gX0_next_X0_openContainer : GoodIn wsX0_next (wsV RX0 72 RX0 yX0_openContainer wsX0_openContainer) := goodIn_app (goodIn_of _ (by decide +kernel)) ggX0_next_X0_openContainer
set_option maxRecDepth 20000 in
theorem ggX0_next_X0_closeFinished : GoodIn wsX0_next wsX0_closeFinished := goodIn_r _ [71, 2, 63, 85, 86, 87, 88, 89, 90] (by decide +kernel) (by decide +kernel)
set_option maxRecDepth 20000 in
theorem gX0_next_X0_closeFinished : GoodIn wsX0_next (wsV RX0 76 RX0 yX0_closeFinished wsX0_closeFinished) := goodIn_app (goodIn_of _ (by decide +kernel)) ggX0_next_X0_closeFinished
set_option maxRecDepth 20000 in
theorem ggX0_next_X0_consume : GoodIn wsX0_next wsX0_consume := goodIn_r _ [75, 76, 1, 77, 78, 79, 6, 80, 81, 82, 83, 84, 10, 11, 12, 13, 14, 15, 16, 17, 18, 19, 20, 21, 22, 23, 24, 25, 26, 27, 28, 43, 44, 45, 46, 47, 48, 49, 50, 51, 52, 53, 29, 30, 31, 32, 33, 34, 35, 36, 37, 38, 39, 40, 41, 42, 85, 86, 87, 88, 89, 90] (by decide +kernel) (by decide +kernel)
set_option maxRecDepth 20000 in
theorem gX0_next_X0_consume : GoodIn wsX0_next (wsV RX0 79 RX0 yX0_consume wsX0_consume) := goodIn_app (goodIn_of _ (by decide +kernel)) ggX0_next_X0_consume
set_option maxRecDepth 20000 in
theorem ggX0_skip_X0_lastHeadFrom : GoodIn wsX0_skip wsX0_lastHeadFrom := goodIn_r _ [6, 7, 8, 9, 5, 10, 11, 12, 13, 14, 15, 16, 17, 18, 19, 20, 21, 22, 23, 24, 25, 26, 27, 28, 29, 30, 31, 32, 33, 34, 35, 36, 37, 38, 39, 40, 41, 42, 43, 44, 45, 46, 47, 48, 49, 50, 51, 52, 53, 54, 55, 56, 57, 58, 59, 60, 61, 62, 63, 64, 65, 66, 67, 68, 69, 85, 86, 87, 88, 89, 90] (by decide +kernel) (by decide +kernel)
set_option maxRecDepth 20000 in
theorem gX0_skip_X0_lastHeadFrom : GoodIn wsX0_skip (wsV RX0 83 RX0 yX0_lastHeadFrom wsX0_lastHeadFrom) := goodIn_app (goodIn_of _ (by decide +kernel)) ggX0_skip_X0_lastHeadFrom
set_option maxRecDepth 20000 in
theorem ggX0_skip_X0_countChild : GoodIn wsX0_skip wsX0_countChild := goodIn_r _ [73, 74, 75, 85, 86, 87, 88, 89, 90] (by decide +kernel) (by decide +kernel)
set_option maxRecDepth 20000 in
theorem gX0_skip_X0_countChild : GoodIn wsX0_skip (wsV RX0 69 RX0 yX0_countChild wsX0_countChild) := goodIn_app (goodIn_of _ (by decide +kernel)) ggX0_skip_X0_countChild
set_option maxRecDepth 20000 in
theorem ggX0_skip_X0_closeFinished : GoodIn wsX0_skip wsX0_closeFinished := goodIn_r _ [79, 74, 75, 85, 86, 87, 88, 89, 90] (by decide +kernel) (by decide +kernel)
set_option maxRecDepth 20000 in
theorem gX0_skip_X0_closeFinished : GoodIn wsX0_skip (wsV RX0 76 RX0 yX0_closeFinished wsX0_closeFinished) := goodIn_app (goodIn_of _ (by decide +kernel)) ggX0_skip_X0_closeFinished
set_option maxRecDepth 20000 in
theorem ggX0_skip_X0_consume : GoodIn wsX0_skip wsX0_consume := goodIn_r _ [83, 84, 1, 62, 63, 64, 5, 65, 66, 67, 68, 69, 13, 14, 15, 16, 17, 18, 19, 20, 21, 22, 23, 24, 25, 26, 27, 28, 29, 30, 31, 46, 47, 48, 49, 50, 51, 52, 53, 54, 55, 56, 32, 33, 34, 35, 36, 37, 38, 39, 40, 41, 42, 43, 44, 45, 85, 86, 87, 88, 89, 90] (by decide +kernel) (by decide +kernel)
set_option maxRecDepth 20000 in
theorem gX0_skip_X0_consume : GoodIn wsX0_skip (wsV RX0 79 RX0 yX0_consume wsX0_consume) := goodIn_app (goodIn_of _ (by decide +kernel)) ggX0_skip_X0_consume
set_option maxRecDepth 20000 in
theorem ggX0_kind_X0_kindAt : GoodIn wsX0_kind wsX0_kindAt := goodIn_r _ [6, 7, 8, 9, 5, 10, 11, 12, 13, 14, 15, 16, 17, 18, 19, 20, 21] (by decide +kernel) (by decide +kernel)
set_option maxRecDepth 20000 in
theorem gX0_kind_X0_kindAt : GoodIn wsX0_kind (wsV RX0 86 RX0 yX0_kindAt wsX0_kindAt) := goodIn_app (goodIn_of _ (by decide +kernel)) ggX0_kind_X0_kindAt
set_option maxRecDepth 20000 in
theorem ggX0_valueLow_X0_numberAt : GoodIn wsX0_valueLow wsX0_numberAt := goodIn_r _ [6, 7, 8, 9, 5, 10, 11, 12, 13, 14, 15, 16, 17, 18, 19, 20, 21, 22, 23, 24, 25, 26, 27, 28, 29, 30, 31, 32, 33, 34, 35] (by decide +kernel) (by decide +kernel)
set_option maxRecDepth 20000 in
theorem gX0_valueLow_X0_numberAt : GoodIn wsX0_valueLow (wsV RX0 89 RX0 yX0_numberAt wsX0_numberAt) := goodIn_app (goodIn_of _ (by decide +kernel)) ggX0_valueLow_X0_numberAt
set_option maxRecDepth 20000 in
theorem ggX0_valueHigh_X0_kindAt : GoodIn wsX0_valueHigh wsX0_kindAt := goodIn_r _ [6, 7, 8, 9, 5, 10, 11, 12, 13, 14, 15, 48, 49, 50, 51, 52, 53] (by decide +kernel) (by decide +kernel)
set_option maxRecDepth 20000 in
theorem gX0_valueHigh_X0_kindAt : GoodIn wsX0_valueHigh (wsV RX0 86 RX0 yX0_kindAt wsX0_kindAt) := goodIn_app (goodIn_of _ (by decide +kernel)) ggX0_valueHigh_X0_kindAt
set_option maxRecDepth 20000 in
theorem ggX0_valueHigh_X0_typeAt : GoodIn wsX0_valueHigh wsX0_typeAt := goodIn_r _ [19, 11, 20, 21, 22, 5, 23, 7, 8, 9, 10, 24, 25, 26, 27, 28, 29, 30, 31, 32, 33, 12, 13, 14, 15, 48, 49, 50, 51, 52, 53] (by decide +kernel) (by decide +kernel)
set_option maxRecDepth 20000 in
theorem gX0_valueHigh_X0_typeAt : GoodIn wsX0_valueHigh (wsV RX0 92 RX0 yX0_typeAt wsX0_typeAt) := goodIn_app (goodIn_of _ (by decide +kernel)) ggX0_valueHigh_X0_typeAt
set_option maxRecDepth 20000 in
theorem ggX0_valueHigh_X0_numberAt : GoodIn wsX0_valueHigh wsX0_numberAt := goodIn_r _ [37, 7, 8, 9, 5, 10, 11, 27, 28, 29, 30, 38, 39, 40, 12, 13, 14, 15, 41, 42, 43, 44, 45, 46, 47, 48, 49, 50, 51, 52, 53] (by decide +kernel) (by decide +kernel)
set_option maxRecDepth 20000 in
theorem gX0_valueHigh_X0_numberAt : GoodIn wsX0_valueHigh (wsV RX0 89 RX0 yX0_numberAt wsX0_numberAt) := goodIn_app (goodIn_of _ (by decide +kernel)) ggX0_valueHigh_X0_numberAt
set_option maxRecDepth 20000 in
theorem ggX0_payload_X0_payloadLengthAt : GoodIn wsX0_payload wsX0_payloadLengthAt := goodIn_r _ [6, 7, 8, 9, 5, 10, 11, 12, 13, 14, 15, 16, 17, 18, 19, 20, 21, 22, 23, 24, 25, 26, 27, 28, 29, 30, 31, 32, 33, 34, 35, 36, 37, 38, 39, 40, 51, 52, 53, 54, 55, 56] (by decide +kernel) (by decide +kernel)
set_option maxRecDepth 20000 in
theorem gX0_payload_X0_payloadLengthAt : GoodIn wsX0_payload (wsV RX0 95 RX0 yX0_payloadLengthAt wsX0_payloadLengthAt) := goodIn_app (goodIn_of _ (by decide +kernel)) ggX0_payload_X0_payloadLengthAt
set_option maxRecDepth 20000 in
theorem ggX0_payload_X0_headLengthAt : GoodIn wsX0_payload wsX0_headLengthAt := goodIn_r _ [44, 11, 12, 13, 5, 14, 15, 45, 46, 47, 27, 28, 29, 30, 48, 49, 50, 16, 17, 18, 19, 51, 52, 53, 54, 55, 56] (by decide +kernel) (by decide +kernel)
set_option maxRecDepth 20000 in
theorem gX0_payload_X0_headLengthAt : GoodIn wsX0_payload (wsV RX0 98 RX0 yX0_headLengthAt wsX0_headLengthAt) := goodIn_app (goodIn_of _ (by decide +kernel)) ggX0_payload_X0_headLengthAt
set_option maxRecDepth 20000 in
theorem ggX0_payload_X0_storedByte : GoodIn wsX0_payload wsX0_storedByte := goodIn_r _ [14, 15, 51, 52, 53, 54, 55, 56] (by decide +kernel) (by decide +kernel)
set_option maxRecDepth 20000 in
theorem gX0_payload_X0_storedByte : GoodIn wsX0_payload (wsV RX0 58 RX0 yX0_storedByte wsX0_storedByte) := goodIn_app (goodIn_of _ (by decide +kernel)) ggX0_payload_X0_storedByte
set_option maxRecDepth 20000 in
theorem ggX0_whole_X0_lastHeadFrom : GoodIn wsX0_whole wsX0_lastHeadFrom := goodIn_r _ [6, 7, 8, 9, 5, 10, 11, 12, 13, 14, 15, 16, 17, 18, 19, 20, 21, 22, 23, 24, 25, 26, 27, 28, 29, 30, 31, 32, 33, 34, 35, 36, 37, 38, 39, 40, 41, 42, 43, 44, 45, 46, 47, 48, 49, 50, 51, 52, 53, 54, 55, 56, 57, 58, 59, 60, 61, 62, 63, 64, 65, 66, 67, 68, 69, 70, 71, 72, 73, 74, 75] (by decide +kernel) (by decide +kernel)
set_option maxRecDepth 20000 in
theorem gX0_whole_X0_lastHeadFrom : GoodIn wsX0_whole (wsV RX0 83 RX0 yX0_lastHeadFrom wsX0_lastHeadFrom) := goodIn_app (goodIn_of _ (by decide +kernel)) ggX0_whole_X0_lastHeadFrom
set_option maxRecDepth 20000 in
theorem ggX0_whole_X0_endAt : GoodIn wsX0_whole wsX0_endAt := goodIn_r _ [65, 66, 67, 68, 5, 69, 13, 14, 15, 16, 17, 18, 19, 20, 21, 22, 23, 24, 25, 26, 27, 28, 29, 30, 31, 46, 47, 48, 49, 50, 51, 52, 53, 54, 55, 56, 32, 33, 34, 35, 36, 37, 38, 39, 40, 41, 42, 43, 44, 45, 70, 71, 72, 73, 74, 75] (by decide +kernel) (by decide +kernel)
set_option maxRecDepth 20000 in
theorem gX0_whole_X0_endAt : GoodIn wsX0_whole (wsV RX0 105 RX0 yX0_endAt wsX0_endAt) := goodIn_app (goodIn_of _ (by decide +kernel)) ggX0_whole_X0_endAt
set_option maxRecDepth 20000 in
theorem ggX0_pack_X0_numberOf : GoodIn wsX0_pack wsX0_numberOf := goodIn_r _ [8, 9] (by decide +kernel) (by decide +kernel)
set_option maxRecDepth 20000 in
theorem gX0_pack_X0_numberOf : GoodIn wsX0_pack (va_wsS RX0 114 yX0_numberOf wsX0_numberOf) := goodIn_app (goodIn_of _ (by decide +kernel)) ggX0_pack_X0_numberOf
set_option maxRecDepth 20000 in
theorem ggX0_pack_X0_shortestForm : GoodIn wsX0_pack wsX0_shortestForm := goodIn_r _ [12, 13, 14, 15, 16, 17, 18, 7, 19, 20, 21, 22, 23, 24, 25, 26, 27, 28] (by decide +kernel) (by decide +kernel)
set_option maxRecDepth 20000 in
theorem gX0_pack_X0_shortestForm : GoodIn wsX0_pack (va_wsS RX0 118 yX0_shortestForm wsX0_shortestForm) := goodIn_app (goodIn_of _ (by decide +kernel)) ggX0_pack_X0_shortestForm
set_option maxRecDepth 20000 in
theorem ggX0_pack_X0_headLength : GoodIn wsX0_pack wsX0_headLength := goodIn_r _ [31, 32, 33, 7, 34, 35, 36, 37, 38, 39, 40, 41, 42] (by decide +kernel) (by decide +kernel)
set_option maxRecDepth 20000 in
theorem gX0_pack_X0_headLength : GoodIn wsX0_pack (va_wsS RX0 122 yX0_headLength wsX0_headLength) := goodIn_app (goodIn_of _ (by decide +kernel)) ggX0_pack_X0_headLength
set_option maxRecDepth 20000 in
theorem ggX0_pack_X0_hasRoom : GoodIn wsX0_pack wsX0_hasRoom := goodIn_r _ [46, 47, 53, 54, 55, 56, 57, 58] (by decide +kernel) (by decide +kernel)
set_option maxRecDepth 20000 in
theorem gX0_pack_X0_hasRoom : GoodIn wsX0_pack (wsV RX0 37 RX0 yX0_hasRoom wsX0_hasRoom) := goodIn_app (goodIn_of _ (by decide +kernel)) ggX0_pack_X0_hasRoom
set_option maxRecDepth 20000 in
theorem ggX0_pack_X0_append : GoodIn wsX0_pack wsX0_append := goodIn_r _ [51, 52, 47, 53, 54, 55, 56, 57, 58] (by decide +kernel) (by decide +kernel)
set_option maxRecDepth 20000 in
theorem gX0_pack_X0_append : GoodIn wsX0_pack (wsV RX0 46 RX0 yX0_append wsX0_append) := goodIn_app (goodIn_of _ (by decide +kernel)) ggX0_pack_X0_append
set_option maxRecDepth 20000 in
theorem ggX0_pack_X0_width : GoodIn wsX0_pack wsX0_width := goodIn_r _ [34, 35] (by decide +kernel) (by decide +kernel)
set_option maxRecDepth 20000 in
theorem gX0_pack_X0_width : GoodIn wsX0_pack (va_wsS RX0 127 yX0_width wsX0_width) := goodIn_app (goodIn_of _ (by decide +kernel)) ggX0_pack_X0_width
set_option maxRecDepth 20000 in
theorem ggX0_pack_X0_typeWidth : GoodIn wsX0_pack wsX0_typeWidth := goodIn_r _ [38, 39, 40, 7, 41, 42] (by decide +kernel) (by decide +kernel)
set_option maxRecDepth 20000 in
theorem gX0_pack_X0_typeWidth : GoodIn wsX0_pack (va_wsS RX0 130 yX0_typeWidth wsX0_typeWidth) := goodIn_app (goodIn_of _ (by decide +kernel)) ggX0_pack_X0_typeWidth
set_option maxRecDepth 20000 in
theorem ggX0_readNumber_X0_storedByte : GoodIn wsX0_readNumber wsX0_storedByte := goodIn_r _ [5, 6, 7, 8, 9, 10, 11, 12] (by decide +kernel) (by decide +kernel)
set_option maxRecDepth 20000 in
theorem gX0_readNumber_X0_storedByte : GoodIn wsX0_readNumber (wsV RX0 58 RX0 yX0_storedByte wsX0_storedByte) := goodIn_app (goodIn_of _ (by decide +kernel)) ggX0_readNumber_X0_storedByte
set_option maxRecDepth 20000 in
theorem ggX0_typeWidth_X0_kindOf : GoodIn wsX0_typeWidth wsX0_kindOf := goodIn_r _ [4, 5] (by decide +kernel) (by decide +kernel)
set_option maxRecDepth 20000 in
theorem gX0_typeWidth_X0_kindOf : GoodIn wsX0_typeWidth (va_wsS RX0 140 yX0_kindOf wsX0_kindOf) := goodIn_app (goodIn_of _ (by decide +kernel)) ggX0_typeWidth_X0_kindOf
set_option maxRecDepth 20000 in
theorem ggX0_headLength_X0_width : GoodIn wsX0_headLength wsX0_width := goodIn_r _ [4, 5] (by decide +kernel) (by decide +kernel)
set_option maxRecDepth 20000 in
theorem gX0_headLength_X0_width : GoodIn wsX0_headLength (va_wsS RX0 127 yX0_width wsX0_width) := goodIn_app (goodIn_of _ (by decide +kernel)) ggX0_headLength_X0_width
set_option maxRecDepth 20000 in
theorem ggX0_headLength_X0_typeWidth : GoodIn wsX0_headLength wsX0_typeWidth := goodIn_r _ [8, 9, 10, 3, 11, 12] (by decide +kernel) (by decide +kernel)
set_option maxRecDepth 20000 in
theorem gX0_headLength_X0_typeWidth : GoodIn wsX0_headLength (va_wsS RX0 130 yX0_typeWidth wsX0_typeWidth) := goodIn_app (goodIn_of _ (by decide +kernel)) ggX0_headLength_X0_typeWidth
set_option maxRecDepth 20000 in
theorem ggX0_numberInside_X0_kindOf : GoodIn wsX0_numberInside wsX0_kindOf := goodIn_r _ [4, 5] (by decide +kernel) (by decide +kernel)
set_option maxRecDepth 20000 in
theorem gX0_numberInside_X0_kindOf : GoodIn wsX0_numberInside (va_wsS RX0 140 yX0_kindOf wsX0_kindOf) := goodIn_app (goodIn_of _ (by decide +kernel)) ggX0_numberInside_X0_kindOf
set_option maxRecDepth 20000 in
theorem ggX0_kindAt_X0_storedByte : GoodIn wsX0_kindAt wsX0_storedByte := goodIn_r _ [5, 6, 11, 12, 13, 14, 15, 16] (by decide +kernel) (by decide +kernel)
set_option maxRecDepth 20000 in
theorem gX0_kindAt_X0_storedByte : GoodIn wsX0_kindAt (wsV RX0 58 RX0 yX0_storedByte wsX0_storedByte) := goodIn_app (goodIn_of _ (by decide +kernel)) ggX0_kindAt_X0_storedByte
set_option maxRecDepth 20000 in
theorem ggX0_kindAt_X0_kindOf : GoodIn wsX0_kindAt wsX0_kindOf := goodIn_r _ [9, 10] (by decide +kernel) (by decide +kernel)
set_option maxRecDepth 20000 in
theorem gX0_kindAt_X0_kindOf : GoodIn wsX0_kindAt (va_wsS RX0 140 yX0_kindOf wsX0_kindOf) := goodIn_app (goodIn_of _ (by decide +kernel)) ggX0_kindAt_X0_kindOf
set_option maxRecDepth 20000 in
theorem ggX0_headLengthAt_X0_storedByte : GoodIn wsX0_headLengthAt wsX0_storedByte := goodIn_r _ [5, 6, 21, 22, 23, 24, 25, 26] (by decide +kernel) (by decide +kernel)
set_option maxRecDepth 20000 in
theorem gX0_headLengthAt_X0_storedByte : GoodIn wsX0_headLengthAt (wsV RX0 58 RX0 yX0_storedByte wsX0_storedByte) := goodIn_app (goodIn_of _ (by decide +kernel)) ggX0_headLengthAt_X0_storedByte
set_option maxRecDepth 20000 in
theorem ggX0_headLengthAt_X0_headLength : GoodIn wsX0_headLengthAt wsX0_headLength := goodIn_r _ [9, 10, 11, 4, 12, 13, 14, 15, 16, 17, 18, 19, 20] (by decide +kernel) (by decide +kernel)
set_option maxRecDepth 20000 in
theorem gX0_headLengthAt_X0_headLength : GoodIn wsX0_headLengthAt (va_wsS RX0 122 yX0_headLength wsX0_headLength) := goodIn_app (goodIn_of _ (by decide +kernel)) ggX0_headLengthAt_X0_headLength
set_option maxRecDepth 20000 in
theorem ggX0_numberAt_X0_storedByte : GoodIn wsX0_numberAt wsX0_storedByte := goodIn_r _ [5, 6, 25, 26, 27, 28, 29, 30] (by decide +kernel) (by decide +kernel)
set_option maxRecDepth 20000 in
theorem gX0_numberAt_X0_storedByte : GoodIn wsX0_numberAt (wsV RX0 58 RX0 yX0_storedByte wsX0_storedByte) := goodIn_app (goodIn_of _ (by decide +kernel)) ggX0_numberAt_X0_storedByte
set_option maxRecDepth 20000 in
theorem ggX0_numberAt_X0_width : GoodIn wsX0_numberAt wsX0_width := goodIn_r _ [9, 10] (by decide +kernel) (by decide +kernel)
set_option maxRecDepth 20000 in
theorem gX0_numberAt_X0_width : GoodIn wsX0_numberAt (va_wsS RX0 127 yX0_width wsX0_width) := goodIn_app (goodIn_of _ (by decide +kernel)) ggX0_numberAt_X0_width
set_option maxRecDepth 20000 in
theorem ggX0_numberAt_X0_numberInside : GoodIn wsX0_numberAt wsX0_numberInside := goodIn_r _ [13, 14, 15, 4, 16, 17] (by decide +kernel) (by decide +kernel)
set_option maxRecDepth 20000 in
theorem gX0_numberAt_X0_numberInside : GoodIn wsX0_numberAt (va_wsS RX0 143 yX0_numberInside wsX0_numberInside) := goodIn_app (goodIn_of _ (by decide +kernel)) ggX0_numberAt_X0_numberInside
set_option maxRecDepth 20000 in
theorem ggX0_numberAt_X0_readNumber : GoodIn wsX0_numberAt wsX0_readNumber := goodIn_r _ [21, 1, 2, 3, 4, 5, 6, 25, 26, 27, 28, 29, 30] (by decide +kernel) (by decide +kernel)
set_option maxRecDepth 20000 in
theorem gX0_numberAt_X0_readNumber : GoodIn wsX0_numberAt (wsV RX0 146 RX0 yX0_readNumber wsX0_readNumber) := goodIn_app (goodIn_of _ (by decide +kernel)) ggX0_numberAt_X0_readNumber
set_option maxRecDepth 20000 in
theorem ggX0_numberAt_X0_kindOf : GoodIn wsX0_numberAt wsX0_kindOf := goodIn_r _ [16, 17] (by decide +kernel) (by decide +kernel)
set_option maxRecDepth 20000 in
theorem gX0_numberAt_X0_kindOf : GoodIn wsX0_numberAt (va_wsS RX0 140 yX0_kindOf wsX0_kindOf) := goodIn_app (goodIn_of _ (by decide +kernel)) ggX0_numberAt_X0_kindOf
set_option maxRecDepth 20000 in
theorem ggX0_numberAt_X0_withSign : GoodIn wsX0_numberAt wsX0_withSign := goodIn_r _ [24] (by decide +kernel) (by decide +kernel)
set_option maxRecDepth 20000 in
theorem gX0_numberAt_X0_withSign : GoodIn wsX0_numberAt (va_wsS RX0 150 yX0_withSign wsX0_withSign) := goodIn_app (goodIn_of _ (by decide +kernel)) ggX0_numberAt_X0_withSign
set_option maxRecDepth 20000 in
theorem ggX0_typeAt_X0_headLengthAt : GoodIn wsX0_typeAt wsX0_headLengthAt := goodIn_r _ [6, 7, 8, 9, 5, 10, 1, 11, 12, 13, 14, 15, 16, 17, 18, 19, 20, 21, 22, 23, 24, 25, 26, 27, 28, 29, 30] (by decide +kernel) (by decide +kernel)
set_option maxRecDepth 20000 in
theorem gX0_typeAt_X0_headLengthAt : GoodIn wsX0_typeAt (wsV RX0 98 RX0 yX0_headLengthAt wsX0_headLengthAt) := goodIn_app (goodIn_of _ (by decide +kernel)) ggX0_typeAt_X0_headLengthAt
set_option maxRecDepth 20000 in
theorem ggX0_payloadLengthAt_X0_kindAt : GoodIn wsX0_payloadLengthAt wsX0_kindAt := goodIn_r _ [5, 6, 7, 8, 4, 9, 10, 11, 12, 13, 14, 36, 37, 38, 39, 40, 41] (by decide +kernel) (by decide +kernel)
set_option maxRecDepth 20000 in
theorem gX0_payloadLengthAt_X0_kindAt : GoodIn wsX0_payloadLengthAt (wsV RX0 86 RX0 yX0_kindAt wsX0_kindAt) := goodIn_app (goodIn_of _ (by decide +kernel)) ggX0_payloadLengthAt_X0_kindAt
set_option maxRecDepth 20000 in
theorem ggX0_payloadLengthAt_X0_hasPayload : GoodIn wsX0_payloadLengthAt wsX0_hasPayload := goodIn_r _ [17] (by decide +kernel) (by decide +kernel)
set_option maxRecDepth 20000 in
theorem gX0_payloadLengthAt_X0_hasPayload : GoodIn wsX0_payloadLengthAt (va_wsS RX0 154 yX0_hasPayload wsX0_hasPayload) := goodIn_app (goodIn_of _ (by decide +kernel)) ggX0_payloadLengthAt_X0_hasPayload
set_option maxRecDepth 20000 in
theorem ggX0_payloadLengthAt_X0_numberAt : GoodIn wsX0_payloadLengthAt wsX0_numberAt := goodIn_r _ [21, 6, 7, 8, 4, 9, 10, 22, 23, 24, 25, 26, 27, 28, 11, 12, 13, 14, 29, 30, 31, 32, 33, 34, 35, 36, 37, 38, 39, 40, 41] (by decide +kernel) (by decide +kernel)
set_option maxRecDepth 20000 in
theorem gX0_payloadLengthAt_X0_numberAt : GoodIn wsX0_payloadLengthAt (wsV RX0 89 RX0 yX0_numberAt wsX0_numberAt) := goodIn_app (goodIn_of _ (by decide +kernel)) ggX0_payloadLengthAt_X0_numberAt
set_option maxRecDepth 20000 in
theorem ggX0_childrenAt_X0_kindAt : GoodIn wsX0_childrenAt wsX0_kindAt := goodIn_r _ [6, 7, 8, 9, 5, 10, 11, 12, 13, 14, 15, 34, 35, 36, 37, 38, 39] (by decide +kernel) (by decide +kernel)
set_option maxRecDepth 20000 in
theorem gX0_childrenAt_X0_kindAt : GoodIn wsX0_childrenAt (wsV RX0 86 RX0 yX0_kindAt wsX0_kindAt) := goodIn_app (goodIn_of _ (by decide +kernel)) ggX0_childrenAt_X0_kindAt
set_option maxRecDepth 20000 in
theorem ggX0_childrenAt_X0_numberAt : GoodIn wsX0_childrenAt wsX0_numberAt := goodIn_r _ [19, 7, 8, 9, 5, 10, 11, 20, 21, 22, 23, 24, 25, 26, 12, 13, 14, 15, 27, 28, 29, 30, 31, 32, 33, 34, 35, 36, 37, 38, 39] (by decide +kernel) (by decide +kernel)
set_option maxRecDepth 20000 in
theorem gX0_childrenAt_X0_numberAt : GoodIn wsX0_childrenAt (wsV RX0 89 RX0 yX0_numberAt wsX0_numberAt) := goodIn_app (goodIn_of _ (by decide +kernel)) ggX0_childrenAt_X0_numberAt
set_option maxRecDepth 20000 in
theorem ggX0_endAt_X0_headLengthAt : GoodIn wsX0_endAt wsX0_headLengthAt := goodIn_r _ [5, 6, 7, 8, 4, 9, 10, 11, 12, 13, 14, 15, 16, 17, 18, 19, 20, 21, 22, 23, 24, 50, 51, 52, 53, 54, 55] (by decide +kernel) (by decide +kernel)
set_option maxRecDepth 20000 in
theorem gX0_endAt_X0_headLengthAt : GoodIn wsX0_endAt (wsV RX0 98 RX0 yX0_headLengthAt wsX0_headLengthAt) := goodIn_app (goodIn_of _ (by decide +kernel)) ggX0_endAt_X0_headLengthAt
set_option maxRecDepth 20000 in
theorem ggX0_endAt_X0_payloadLengthAt : GoodIn wsX0_endAt wsX0_payloadLengthAt := goodIn_r _ [28, 29, 30, 31, 4, 32, 6, 7, 8, 9, 10, 21, 22, 23, 24, 33, 34, 35, 36, 37, 38, 39, 14, 15, 16, 17, 40, 41, 42, 43, 44, 45, 46, 47, 48, 49, 50, 51, 52, 53, 54, 55] (by decide +kernel) (by decide +kernel)
set_option maxRecDepth 20000 in
theorem gX0_endAt_X0_payloadLengthAt : GoodIn wsX0_endAt (wsV RX0 95 RX0 yX0_payloadLengthAt wsX0_payloadLengthAt) := goodIn_app (goodIn_of _ (by decide +kernel)) ggX0_endAt_X0_payloadLengthAt
set_option maxRecDepth 20000 in
theorem ggX0_lookAt_X0_storedByte : GoodIn wsX0_lookAt wsX0_storedByte := goodIn_r _ [7, 8, 48, 49, 50, 51, 52, 53] (by decide +kernel) (by decide +kernel)
set_option maxRecDepth 20000 in
theorem gX0_lookAt_X0_storedByte : GoodIn wsX0_lookAt (wsV RX0 58 RX0 yX0_storedByte wsX0_storedByte) := goodIn_app (goodIn_of _ (by decide +kernel)) ggX0_lookAt_X0_storedByte
set_option maxRecDepth 20000 in
theorem ggX0_lookAt_X0_headLength : GoodIn wsX0_lookAt wsX0_headLength := goodIn_r _ [11, 12, 13, 6, 14, 15, 16, 17, 18, 19, 20, 21, 22] (by decide +kernel) (by decide +kernel)
set_option maxRecDepth 20000 in
theorem gX0_lookAt_X0_headLength : GoodIn wsX0_lookAt (va_wsS RX0 122 yX0_headLength wsX0_headLength) := goodIn_app (goodIn_of _ (by decide +kernel)) ggX0_lookAt_X0_headLength
set_option maxRecDepth 20000 in
theorem ggX0_lookAt_X0_kindOf : GoodIn wsX0_lookAt wsX0_kindOf := goodIn_r _ [21, 22] (by decide +kernel) (by decide +kernel)
set_option maxRecDepth 20000 in
theorem gX0_lookAt_X0_kindOf : GoodIn wsX0_lookAt (va_wsS RX0 140 yX0_kindOf wsX0_kindOf) := goodIn_app (goodIn_of _ (by decide +kernel)) ggX0_lookAt_X0_kindOf
set_option maxRecDepth 20000 in
theorem ggX0_lookAt_X0_numberAt : GoodIn wsX0_lookAt wsX0_numberAt := goodIn_r _ [26, 3, 4, 5, 6, 7, 8, 12, 13, 14, 15, 27, 28, 29, 19, 20, 21, 22, 30, 31, 32, 33, 34, 35, 36, 48, 49, 50, 51, 52, 53] (by decide +kernel) (by decide +kernel)
set_option maxRecDepth 20000 in
theorem gX0_lookAt_X0_numberAt : GoodIn wsX0_lookAt (wsV RX0 89 RX0 yX0_numberAt wsX0_numberAt) := goodIn_app (goodIn_of _ (by decide +kernel)) ggX0_lookAt_X0_numberAt
set_option maxRecDepth 20000 in
theorem ggX0_lookAt_X0_payloadLengthAt : GoodIn wsX0_lookAt wsX0_payloadLengthAt := goodIn_r _ [40, 41, 42, 43, 6, 44, 3, 4, 5, 7, 8, 19, 20, 21, 22, 45, 46, 47, 23, 24, 25, 26, 12, 13, 14, 15, 27, 28, 29, 30, 31, 32, 33, 34, 35, 36, 48, 49, 50, 51, 52, 53] (by decide +kernel) (by decide +kernel)
set_option maxRecDepth 20000 in
theorem gX0_lookAt_X0_payloadLengthAt : GoodIn wsX0_lookAt (wsV RX0 95 RX0 yX0_payloadLengthAt wsX0_payloadLengthAt) := goodIn_app (goodIn_of _ (by decide +kernel)) ggX0_lookAt_X0_payloadLengthAt
set_option maxRecDepth 20000 in
theorem ggX0_lastHeadFrom_X0_lookAt : GoodIn wsX0_lastHeadFrom wsX0_lookAt := goodIn_r _ [5, 6, 7, 8, 9, 10, 4, 11, 12, 13, 14, 15, 16, 17, 18, 19, 20, 21, 22, 23, 24, 25, 26, 27, 28, 29, 30, 31, 32, 33, 34, 35, 36, 37, 38, 39, 40, 41, 42, 43, 44, 45, 46, 47, 48, 49, 50, 51, 65, 66, 67, 68, 69, 70] (by decide +kernel) (by decide +kernel)
set_option maxRecDepth 20000 in
theorem gX0_lastHeadFrom_X0_lookAt : GoodIn wsX0_lastHeadFrom (wsV RX0 62 RX0 yX0_lookAt wsX0_lookAt) := goodIn_app (goodIn_of _ (by decide +kernel)) ggX0_lastHeadFrom_X0_lookAt
set_option maxRecDepth 20000 in
theorem ggX0_lastHeadFrom_X0_childrenAt : GoodIn wsX0_lastHeadFrom wsX0_childrenAt := goodIn_r _ [55, 56, 45, 46, 47, 4, 48, 8, 9, 10, 11, 12, 23, 24, 25, 26, 27, 28, 29, 30, 16, 17, 18, 19, 31, 32, 33, 34, 35, 36, 37, 38, 39, 40, 65, 66, 67, 68, 69, 70] (by decide +kernel) (by decide +kernel)
set_option maxRecDepth 20000 in
theorem gX0_lastHeadFrom_X0_childrenAt : GoodIn wsX0_lastHeadFrom (wsV RX0 65 RX0 yX0_childrenAt wsX0_childrenAt) := goodIn_app (goodIn_of _ (by decide +kernel)) ggX0_lastHeadFrom_X0_childrenAt
set_option maxRecDepth 20000 in
theorem ggX0_lastHeadFrom_X0_endAt : GoodIn wsX0_lastHeadFrom wsX0_endAt := goodIn_r _ [60, 61, 62, 63, 4, 64, 8, 9, 10, 11, 12, 13, 14, 15, 16, 17, 18, 19, 20, 21, 22, 23, 24, 25, 26, 41, 42, 43, 44, 45, 46, 47, 48, 49, 50, 51, 27, 28, 29, 30, 31, 32, 33, 34, 35, 36, 37, 38, 39, 40, 65, 66, 67, 68, 69, 70] (by decide +kernel) (by decide +kernel)
set_option maxRecDepth 20000 in
theorem gX0_lastHeadFrom_X0_endAt : GoodIn wsX0_lastHeadFrom (wsV RX0 105 RX0 yX0_endAt wsX0_endAt) := goodIn_app (goodIn_of _ (by decide +kernel)) ggX0_lastHeadFrom_X0_endAt
set_option maxRecDepth 20000 in
theorem ggX0_consume_X0_endAt : GoodIn wsX0_consume wsX0_endAt := goodIn_r _ [7, 8, 9, 10, 6, 11, 12, 13, 14, 15, 16, 17, 18, 19, 20, 21, 22, 23, 24, 25, 26, 27, 28, 29, 30, 31, 32, 33, 34, 35, 36, 37, 38, 39, 40, 41, 42, 43, 44, 45, 46, 47, 48, 49, 50, 51, 52, 53, 54, 55, 56, 57, 58, 59, 60, 61] (by decide +kernel) (by decide +kernel)
set_option maxRecDepth 20000 in
theorem gX0_consume_X0_endAt : GoodIn wsX0_consume (wsV RX0 105 RX0 yX0_endAt wsX0_endAt) := goodIn_app (goodIn_of _ (by decide +kernel)) ggX0_consume_X0_endAt
set_option maxRecDepth 20000 in
theorem ggX0_shortestForm_X0_unsignedStep : GoodIn wsX0_shortestForm wsX0_unsignedStep := goodIn_r _ [8] (by decide +kernel) (by decide +kernel)
set_option maxRecDepth 20000 in
theorem gX0_shortestForm_X0_unsignedStep : GoodIn wsX0_shortestForm (va_wsS RX0 165 yX0_unsignedStep wsX0_unsignedStep) := goodIn_app (goodIn_of _ (by decide +kernel)) ggX0_shortestForm_X0_unsignedStep
set_option maxRecDepth 20000 in
theorem ggX0_shortestForm_X0_signedStep : GoodIn wsX0_shortestForm wsX0_signedStep := goodIn_r _ [11] (by decide +kernel) (by decide +kernel)
set_option maxRecDepth 20000 in
theorem gX0_shortestForm_X0_signedStep : GoodIn wsX0_shortestForm (va_wsS RX0 171 yX0_signedStep wsX0_signedStep) := goodIn_app (goodIn_of _ (by decide +kernel)) ggX0_shortestForm_X0_signedStep
set_option maxRecDepth 20000 in
theorem ggX0_shortestForm_X0_countStep : GoodIn wsX0_shortestForm wsX0_countStep := goodIn_r _ [14] (by decide +kernel) (by decide +kernel)
set_option maxRecDepth 20000 in
theorem gX0_shortestForm_X0_countStep : GoodIn wsX0_shortestForm (va_wsS RX0 178 yX0_countStep wsX0_countStep) := goodIn_app (goodIn_of _ (by decide +kernel)) ggX0_shortestForm_X0_countStep
set_option maxRecDepth 20000 in
theorem ggX0_shortestForm_X0_extensionForm : GoodIn wsX0_shortestForm wsX0_extensionForm := goodIn_r _ [17, 5, 6, 7, 8] (by decide +kernel) (by decide +kernel)
set_option maxRecDepth 20000 in
theorem gX0_shortestForm_X0_extensionForm : GoodIn wsX0_shortestForm (va_wsS RX0 181 yX0_extensionForm wsX0_extensionForm) := goodIn_app (goodIn_of _ (by decide +kernel)) ggX0_shortestForm_X0_extensionForm
set_option maxRecDepth 20000 in
theorem ggX0_extensionForm_X0_unsignedStep : GoodIn wsX0_extensionForm wsX0_unsignedStep := goodIn_r _ [4] (by decide +kernel) (by decide +kernel)
set_option maxRecDepth 20000 in
theorem gX0_extensionForm_X0_unsignedStep : GoodIn wsX0_extensionForm (va_wsS RX0 165 yX0_unsignedStep wsX0_unsignedStep) := goodIn_app (goodIn_of _ (by decide +kernel)) ggX0_extensionForm_X0_unsignedStep
set_option maxRecDepth 20000 in
theorem ggX1_feed_X1_fails : GoodIn wsX1_feed wsX1_fails := goodIn_r _ [8, 1, 9, 10, 11, 12, 13, 14, 15, 16, 17, 18, 19, 20, 21, 22, 23, 24, 25] (by decide +kernel) (by decide +kernel)
set_option maxRecDepth 20000 in
theorem gX1_feed_X1_fails : GoodIn wsX1_feed (wsV RX1 24 RX1 yX1_fails wsX1_fails) := goodIn_app (goodIn_of _ (by decide +kernel)) ggX1_feed_X1_fails
set_option maxRecDepth 20000 in
theorem ggX1_put_X1_fails : GoodIn wsX1_put wsX1_fails := goodIn_r _ [7, 1, 14, 15, 16, 17, 18, 19, 20, 21, 22, 23, 24, 25, 26, 27, 28, 29, 30] (by decide +kernel) (by decide +kernel)
set_option maxRecDepth 20000 in
theorem gX1_put_X1_fails : GoodIn wsX1_put (wsV RX1 24 RX1 yX1_fails wsX1_fails) := goodIn_app (goodIn_of _ (by decide +kernel)) ggX1_put_X1_fails
set_option maxRecDepth 20000 in
theorem ggX1_put_X1_write : GoodIn wsX1_put wsX1_write := goodIn_r _ [11, 12, 2, 13, 14, 15, 16, 17, 18, 19, 20, 21, 22, 23, 24, 25, 26, 27, 28, 29, 30] (by decide +kernel) (by decide +kernel)
set_option maxRecDepth 20000 in
theorem gX1_put_X1_write : GoodIn wsX1_put (wsV RX1 33 RX1 yX1_write wsX1_write) := goodIn_app (goodIn_of _ (by decide +kernel)) ggX1_put_X1_write
set_option maxRecDepth 20000 in
theorem ggX1_cut_X1_fails : GoodIn wsX1_cut wsX1_fails := goodIn_r _ [8, 1, 9, 10, 11, 12, 13, 14, 15, 16, 17, 18, 19, 20, 21, 22, 23, 24, 25] (by decide +kernel) (by decide +kernel)
set_option maxRecDepth 20000 in
theorem gX1_cut_X1_fails : GoodIn wsX1_cut (wsV RX1 24 RX1 yX1_fails wsX1_fails) := goodIn_app (goodIn_of _ (by decide +kernel)) ggX1_cut_X1_fails
set_option maxRecDepth 20000 in
theorem ggX1_byteAt_X1_fails : GoodIn wsX1_byteAt wsX1_fails := goodIn_r _ [8, 1, 9, 10, 11, 12, 13, 14, 15, 16, 17, 18, 19, 20, 21, 22, 23, 24, 25] (by decide +kernel) (by decide +kernel)
set_option maxRecDepth 20000 in
theorem gX1_byteAt_X1_fails : GoodIn wsX1_byteAt (wsV RX1 24 RX1 yX1_fails wsX1_fails) := goodIn_app (goodIn_of _ (by decide +kernel)) ggX1_byteAt_X1_fails
set_option maxRecDepth 20000 in
theorem ggX1_look_X1_widthOf : GoodIn wsX1_look wsX1_widthOf := goodIn_r _ [14] (by decide +kernel) (by decide +kernel)
set_option maxRecDepth 20000 in
theorem gX1_look_X1_widthOf : GoodIn wsX1_look (va_wsS RX1 40 yX1_widthOf wsX1_widthOf) := goodIn_app (goodIn_of _ (by decide +kernel)) ggX1_look_X1_widthOf
set_option maxRecDepth 20000 in
theorem ggX1_look_X1_kindOf : GoodIn wsX1_look wsX1_kindOf := goodIn_r _ [17] (by decide +kernel) (by decide +kernel)
set_option maxRecDepth 20000 in
theorem gX1_look_X1_kindOf : GoodIn wsX1_look (va_wsS RX1 44 yX1_kindOf wsX1_kindOf) := goodIn_app (goodIn_of _ (by decide +kernel)) ggX1_look_X1_kindOf
set_option maxRecDepth 20000 in
theorem ggX1_look_X1_ownNumber : GoodIn wsX1_look wsX1_ownNumber := goodIn_r _ [20] (by decide +kernel) (by decide +kernel)
set_option maxRecDepth 20000 in
theorem gX1_look_X1_ownNumber : GoodIn wsX1_look (va_wsS RX1 53 yX1_ownNumber wsX1_ownNumber) := goodIn_app (goodIn_of _ (by decide +kernel)) ggX1_look_X1_ownNumber
set_option maxRecDepth 20000 in
theorem ggX1_look_X1_numberAt : GoodIn wsX1_look wsX1_numberAt := goodIn_r _ [24, 2, 25, 26, 27, 28, 29, 30, 31, 32, 33, 34, 35, 36, 37, 38, 39, 40, 41] (by decide +kernel) (by decide +kernel)
set_option maxRecDepth 20000 in
theorem gX1_look_X1_numberAt : GoodIn wsX1_look (wsV RX1 57 RX1 yX1_numberAt wsX1_numberAt) := goodIn_app (goodIn_of _ (by decide +kernel)) ggX1_look_X1_numberAt
set_option maxRecDepth 20000 in
theorem ggX1_next_X1_look : GoodIn wsX1_next wsX1_look := goodIn_r _ [13, 14, 15, 8, 5, 16, 17, 6, 3, 18, 19, 20, 21, 12, 22, 23, 24, 25, 26, 27, 28, 29, 30, 31, 32, 46, 47, 48, 49, 50, 51, 52, 53, 54, 55, 56, 57, 58, 59, 60, 61, 62] (by decide +kernel) (by decide +kernel)
set_option maxRecDepth 20000 in
theorem gX1_next_X1_look : GoodIn wsX1_next (wsV RX1 93 RX1 yX1_look wsX1_look) := goodIn_app (goodIn_of _ (by decide +kernel)) ggX1_next_X1_look
set_option maxRecDepth 20000 in
theorem ggX1_next_X1_give : GoodIn wsX1_next wsX1_give := goodIn_r _ [36, 8, 37, 16, 38, 17, 39, 40, 6, 41, 46, 47, 48, 49, 50, 51, 52, 53, 54, 55, 56, 57, 58, 59, 60, 61, 62] (by decide +kernel) (by decide +kernel)
set_option maxRecDepth 20000 in
theorem gX1_next_X1_give : GoodIn wsX1_next (wsV RX1 96 RX1 yX1_give wsX1_give) := goodIn_app (goodIn_of _ (by decide +kernel)) ggX1_next_X1_give
set_option maxRecDepth 20000 in
theorem ggX1_next_X1_closeDone : GoodIn wsX1_next wsX1_closeDone := goodIn_r _ [45, 4, 7, 46, 47, 48, 49, 50, 51, 52, 53, 54, 55, 56, 57, 58, 59, 60, 61, 62] (by decide +kernel) (by decide +kernel)
set_option maxRecDepth 20000 in
theorem gX1_next_X1_closeDone : GoodIn wsX1_next (wsV RX1 100 RX1 yX1_closeDone wsX1_closeDone) := goodIn_app (goodIn_of _ (by decide +kernel)) ggX1_next_X1_closeDone
set_option maxRecDepth 20000 in
theorem ggX1_end_X1_look : GoodIn wsX1_end wsX1_look := goodIn_r _ [8, 9, 10, 11, 1, 12, 13, 2, 3, 14, 15, 16, 17, 7, 18, 19, 20, 21, 22, 23, 24, 25, 26, 27, 28, 29, 30, 31, 32, 33, 34, 35, 36, 37, 38, 39, 40, 41, 42, 43, 44, 45] (by decide +kernel) (by decide +kernel)
set_option maxRecDepth 20000 in
theorem gX1_end_X1_look : GoodIn wsX1_end (wsV RX1 93 RX1 yX1_look wsX1_look) := goodIn_app (goodIn_of _ (by decide +kernel)) ggX1_end_X1_look
set_option maxRecDepth 20000 in
theorem ggX1_skip_X1_end : GoodIn wsX1_skip wsX1_end := goodIn_r _ [10, 11, 3, 12, 13, 14, 15, 9, 16, 17, 18, 19, 20, 21, 22, 23, 24, 25, 26, 27, 28, 29, 30, 31, 32, 33, 34, 35, 36, 50, 51, 52, 53, 54, 55, 56, 57, 58, 59, 60, 61, 62, 63, 64, 65, 66] (by decide +kernel) (by decide +kernel)
set_option maxRecDepth 20000 in
theorem gX1_skip_X1_end : GoodIn wsX1_skip (wsV RX1 103 RX1 yX1_end wsX1_end) := goodIn_app (goodIn_of _ (by decide +kernel)) ggX1_skip_X1_end
set_option maxRecDepth 20000 in
theorem ggX1_skip_X1_give : GoodIn wsX1_skip wsX1_give := goodIn_r _ [40, 19, 41, 20, 42, 21, 43, 44, 3, 45, 50, 51, 52, 53, 54, 55, 56, 57, 58, 59, 60, 61, 62, 63, 64, 65, 66] (by decide +kernel) (by decide +kernel)
set_option maxRecDepth 20000 in
theorem gX1_skip_X1_give : GoodIn wsX1_skip (wsV RX1 96 RX1 yX1_give wsX1_give) := goodIn_app (goodIn_of _ (by decide +kernel)) ggX1_skip_X1_give
set_option maxRecDepth 20000 in
theorem ggX1_skip_X1_closeDone : GoodIn wsX1_skip wsX1_closeDone := goodIn_r _ [49, 4, 5, 50, 51, 52, 53, 54, 55, 56, 57, 58, 59, 60, 61, 62, 63, 64, 65, 66] (by decide +kernel) (by decide +kernel)
set_option maxRecDepth 20000 in
theorem gX1_skip_X1_closeDone : GoodIn wsX1_skip (wsV RX1 100 RX1 yX1_closeDone wsX1_closeDone) := goodIn_app (goodIn_of _ (by decide +kernel)) ggX1_skip_X1_closeDone
set_option maxRecDepth 20000 in
theorem ggX1_remaining_X1_fails : GoodIn wsX1_remaining wsX1_fails := goodIn_r _ [9, 1, 10, 11, 12, 13, 14, 15, 16, 17, 18, 19, 20, 21, 22, 23, 24, 25, 26] (by decide +kernel) (by decide +kernel)
set_option maxRecDepth 20000 in
theorem gX1_remaining_X1_fails : GoodIn wsX1_remaining (wsV RX1 24 RX1 yX1_fails wsX1_fails) := goodIn_app (goodIn_of _ (by decide +kernel)) ggX1_remaining_X1_fails
set_option maxRecDepth 20000 in
theorem ggX1_whole_X1_end : GoodIn wsX1_whole wsX1_end := goodIn_r _ [7, 8, 9, 10, 11, 12, 13, 6, 14, 15, 16, 17, 18, 19, 20, 21, 22, 23, 24, 25, 26, 27, 28, 29, 30, 31, 32, 33, 34, 35, 36, 37, 38, 39, 40, 41, 42, 43, 44, 45, 46, 47, 48, 49, 50, 51] (by decide +kernel) (by decide +kernel)
set_option maxRecDepth 20000 in
theorem gX1_whole_X1_end : GoodIn wsX1_whole (wsV RX1 103 RX1 yX1_end wsX1_end) := goodIn_app (goodIn_of _ (by decide +kernel)) ggX1_whole_X1_end
set_option maxRecDepth 20000 in
theorem ggX1_packHead_X1_fails : GoodIn wsX1_packHead wsX1_fails := goodIn_r _ [7, 8, 14, 15, 16, 17, 18, 19, 20, 21, 22, 23, 24, 25, 26, 27, 28, 29, 30] (by decide +kernel) (by decide +kernel)
set_option maxRecDepth 20000 in
theorem gX1_packHead_X1_fails : GoodIn wsX1_packHead (wsV RX1 24 RX1 yX1_fails wsX1_fails) := goodIn_app (goodIn_of _ (by decide +kernel)) ggX1_packHead_X1_fails
set_option maxRecDepth 20000 in
theorem ggX1_packHead_X1_write : GoodIn wsX1_packHead wsX1_write := goodIn_r _ [12, 2, 1, 13, 14, 15, 16, 17, 18, 19, 20, 21, 22, 23, 24, 25, 26, 27, 28, 29, 30] (by decide +kernel) (by decide +kernel)
set_option maxRecDepth 20000 in
theorem gX1_packHead_X1_write : GoodIn wsX1_packHead (wsV RX1 33 RX1 yX1_write wsX1_write) := goodIn_app (goodIn_of _ (by decide +kernel)) ggX1_packHead_X1_write
set_option maxRecDepth 20000 in
theorem ggX1_pack_X1_fails : GoodIn wsX1_pack wsX1_fails := goodIn_r _ [9, 1, 36, 37, 38, 39, 40, 41, 42, 43, 44, 45, 46, 47, 48, 49, 50, 51, 52] (by decide +kernel) (by decide +kernel)
set_option maxRecDepth 20000 in
theorem gX1_pack_X1_fails : GoodIn wsX1_pack (wsV RX1 24 RX1 yX1_fails wsX1_fails) := goodIn_app (goodIn_of _ (by decide +kernel)) ggX1_pack_X1_fails
set_option maxRecDepth 20000 in
theorem ggX1_pack_X1_needs : GoodIn wsX1_pack wsX1_needs := goodIn_r _ [12] (by decide +kernel) (by decide +kernel)
set_option maxRecDepth 20000 in
theorem gX1_pack_X1_needs : GoodIn wsX1_pack (va_wsS RX1 120 yX1_needs wsX1_needs) := goodIn_app (goodIn_of _ (by decide +kernel)) ggX1_pack_X1_needs
set_option maxRecDepth 20000 in
theorem ggX1_pack_X1_packHead : GoodIn wsX1_pack wsX1_packHead := goodIn_r _ [16, 17, 18, 5, 6, 7, 8, 9, 1, 19, 20, 21, 22, 23, 36, 37, 38, 39, 40, 41, 42, 43, 44, 45, 46, 47, 48, 49, 50, 51, 52] (by decide +kernel) (by decide +kernel)
set_option maxRecDepth 20000 in
theorem gX1_pack_X1_packHead : GoodIn wsX1_pack (wsV RX1 124 RX1 yX1_packHead wsX1_packHead) := goodIn_app (goodIn_of _ (by decide +kernel)) ggX1_pack_X1_packHead
set_option maxRecDepth 20000 in
theorem ggX1_pack_X1_log : GoodIn wsX1_pack wsX1_log := goodIn_r _ [26] (by decide +kernel) (by decide +kernel)
set_option maxRecDepth 20000 in
theorem gX1_pack_X1_log : GoodIn wsX1_pack (va_wsS RX1 128 yX1_log wsX1_log) := goodIn_app (goodIn_of _ (by decide +kernel)) ggX1_pack_X1_log
set_option maxRecDepth 20000 in
theorem ggX1_pack_X1_needsSigned : GoodIn wsX1_pack wsX1_needsSigned := goodIn_r _ [29, 30, 31, 32, 33, 34, 35] (by decide +kernel) (by decide +kernel)
set_option maxRecDepth 20000 in
theorem gX1_pack_X1_needsSigned : GoodIn wsX1_pack (va_wsS RX1 133 yX1_needsSigned wsX1_needsSigned) := goodIn_app (goodIn_of _ (by decide +kernel)) ggX1_pack_X1_needsSigned
set_option maxRecDepth 20000 in
theorem ggL_feed_X0_feed : GoodIn wsL_feed wsX0_feed := goodIn_ca (goodIn_ca (goodIn_r _ [7, 8, 9, 10, 11, 12, 13, 14, 15, 6, 16, 17, 18, 19, 20, 21, 22, 23, 24, 25, 26, 27] (by decide +kernel) (by decide +kernel)) (goodIn_sub (fun _ h => List.mem_cons_of_mem _ (List.mem_append_left _ (List.mem_append_right _ h))) (by decide +kernel))) (goodIn_sub (fun _ h => List.mem_cons_of_mem _ (List.mem_append_right _ h)) (by decide +kernel))
set_option maxRecDepth 20000 in
theorem gL_feed_X0_feed : GoodIn wsL_feed (wsV RL 7 RX0 yX0_feed wsX0_feed) := goodIn_app (goodIn_of _ (by decide +kernel)) ggL_feed_X0_feed
set_option maxRecDepth 20000 in
theorem ggL_put_X0_put : GoodIn wsL_put wsX0_put := goodIn_ca (goodIn_ca (goodIn_r _ [7, 8, 9, 10, 11, 12, 13, 14, 15, 6, 16, 17, 18, 19, 20, 21, 22, 23, 24, 25, 26, 27] (by decide +kernel) (by decide +kernel)) (goodIn_sub (fun _ h => List.mem_cons_of_mem _ (List.mem_append_left _ (List.mem_append_right _ h))) (by decide +kernel))) (goodIn_sub (fun _ h => List.mem_cons_of_mem _ (List.mem_append_right _ h)) (by decide +kernel))
set_option maxRecDepth 20000 in
theorem gL_put_X0_put : GoodIn wsL_put (wsV RL 17 RX0 yX0_put wsX0_put) := goodIn_app (goodIn_of _ (by decide +kernel)) ggL_put_X0_put
set_option maxRecDepth 20000 in
theorem ggL_cut_X0_cut : GoodIn wsL_cut wsX0_cut := goodIn_ca (goodIn_r _ [6, 7, 8, 9, 10, 11, 12, 13, 14, 15, 16] (by decide +kernel) (by decide +kernel)) (goodIn_sub (fun _ h => List.mem_cons_of_mem _ (List.mem_append_right _ h)) (by decide +kernel))
set_option maxRecDepth 20000 in
theorem gL_cut_X0_cut : GoodIn wsL_cut (wsV RL 21 RX0 yX0_cut wsX0_cut) := goodIn_app (goodIn_of _ (by decide +kernel)) ggL_cut_X0_cut
set_option maxRecDepth 20000 in
theorem ggL_byteAt_X0_byteAt : GoodIn wsL_byteAt wsX0_byteAt := goodIn_ca (goodIn_r _ [6, 7, 8, 9, 10, 11, 12, 5, 13, 14, 15, 16, 17, 18, 19, 20] (by decide +kernel) (by decide +kernel)) (goodIn_sub (fun _ h => List.mem_cons_of_mem _ (List.mem_append_right _ h)) (by decide +kernel))
set_option maxRecDepth 20000 in
theorem gL_byteAt_X0_byteAt : GoodIn wsL_byteAt (wsV RL 24 RX0 yX0_byteAt wsX0_byteAt) := goodIn_app (goodIn_of _ (by decide +kernel)) ggL_byteAt_X0_byteAt
set_option maxRecDepth 20000 in
theorem ggL_remaining_X0_remaining : GoodIn wsL_remaining wsX0_remaining := goodIn_ca (goodIn_r _ [6, 7, 8, 9, 10, 11, 12, 13, 14, 15, 16, 17] (by decide +kernel) (by decide +kernel)) (goodIn_sub (fun _ h => List.mem_cons_of_mem _ (List.mem_append_right _ h)) (by decide +kernel))
set_option maxRecDepth 20000 in
theorem gL_remaining_X0_remaining : GoodIn wsL_remaining (wsV RL 27 RX0 yX0_remaining wsX0_remaining) := goodIn_app (goodIn_of _ (by decide +kernel)) ggL_remaining_X0_remaining
set_option maxRecDepth 20000 in
theorem ggL_pack_X0_pack : GoodIn wsL_pack wsX0_pack := goodIn_ca (goodIn_ca (goodIn_r _ [7, 8, 9, 10, 11, 12, 13, 6, 14, 15, 16, 17, 18, 19, 20, 21, 22, 23, 24, 25, 26, 27, 28, 29, 30, 31, 32, 33, 34, 35, 36, 37, 38, 39, 40, 41, 42, 43, 44, 45, 46, 47, 48, 49, 50, 51, 52, 53, 54, 55, 56, 57, 58, 59, 60, 61, 62, 63, 64] (by decide +kernel) (by decide +kernel)) (goodIn_sub (fun _ h => List.mem_cons_of_mem _ (List.mem_append_left _ (List.mem_append_right _ h))) (by decide +kernel))) (goodIn_sub (fun _ h => List.mem_cons_of_mem _ (List.mem_append_right _ h)) (by decide +kernel))
set_option maxRecDepth 20000 in
theorem gL_pack_X0_pack : GoodIn wsL_pack (wsV RL 31 RX0 yX0_pack wsX0_pack) := goodIn_app (goodIn_of _ (by decide +kernel)) ggL_pack_X0_pack
set_option maxRecDepth 20000 in
theorem ggL_law_X0_init : GoodIn wsL_law wsX0_init := goodIn_r _ [10, 11, 12, 13, 14, 15, 16, 17, 18, 6, 19, 20, 371, 372, 373, 374, 375, 376] (by decide +kernel) (by decide +kernel)
set_option maxRecDepth 20000 in
theorem gL_law_X0_init : GoodIn wsL_law (wsX0_init) := ggL_law_X0_init
set_option maxRecDepth 20000 in
theorem ggL_law_X1_init : GoodIn wsL_law wsX1_init := goodIn_r _ [23, 24, 12, 13, 25, 26, 27, 6, 28, 377, 378, 379, 380, 381, 382, 383, 384, 385, 386, 387, 388, 389, 390, 391, 392, 393] (by decide +kernel) (by decide +kernel)
set_option maxRecDepth 20000 in
theorem gL_law_X1_init : GoodIn wsL_law (wsX1_init) := ggL_law_X1_init
set_option maxRecDepth 20000 in
theorem ggL_law_L_feed : GoodIn wsL_law wsL_feed := goodIn_ca (goodIn_ca (goodIn_r _ [32, 33, 34, 35, 36, 37, 2, 38, 39, 40, 41, 42, 16, 43, 44, 45, 46, 47, 48, 49, 50, 15, 371, 372, 373, 374, 375, 376] (by decide +kernel) (by decide +kernel)) (goodIn_sub (fun _ h => List.mem_append_left _ (List.mem_append_right _ h)) (by decide +kernel))) (goodIn_sub (fun _ h => List.mem_append_right _ h) (by decide +kernel))
set_option maxRecDepth 20000 in
theorem gL_law_L_feed : GoodIn wsL_law (va_wsS RL 39 yL_feed wsL_feed) := goodIn_app (goodIn_of _ (by decide +kernel)) ggL_law_L_feed
set_option maxRecDepth 20000 in
theorem ggL_law_X1_feed : GoodIn wsL_law wsX1_feed := goodIn_r _ [54, 55, 56, 26, 57, 58, 59, 5, 60, 377, 378, 379, 380, 381, 382, 383, 384, 385, 386, 387, 388, 389, 390, 391, 392, 393] (by decide +kernel) (by decide +kernel)
set_option maxRecDepth 20000 in
theorem gL_law_X1_feed : GoodIn wsL_law (wsV RL 44 RX1 yX1_feed wsX1_feed) := goodIn_app (goodIn_of _ (by decide +kernel)) ggL_law_X1_feed
set_option maxRecDepth 20000 in
theorem ggL_law_X1_thrown : GoodIn wsL_law wsX1_thrown := goodIn_r _ [64, 55, 377, 378, 379, 380, 381, 382, 383, 384, 385, 386, 387, 388, 389, 390, 391, 392, 393] (by decide +kernel) (by decide +kernel)
set_option maxRecDepth 20000 in
theorem gL_law_X1_thrown : GoodIn wsL_law (wsV RL 45 RX1 yX1_thrown wsX1_thrown) := goodIn_app (goodIn_of _ (by decide +kernel)) ggL_law_X1_thrown
set_option maxRecDepth 20000 in
theorem ggL_law_L_put : GoodIn wsL_law wsL_put := goodIn_ca (goodIn_ca (goodIn_r _ [67, 33, 34, 68, 69, 70, 2, 71, 39, 40, 41, 42, 16, 43, 44, 45, 46, 47, 48, 49, 50, 15, 371, 372, 373, 374, 375, 376] (by decide +kernel) (by decide +kernel)) (goodIn_sub (fun _ h => List.mem_append_left _ (List.mem_append_right _ h)) (by decide +kernel))) (goodIn_sub (fun _ h => List.mem_append_right _ h) (by decide +kernel))
set_option maxRecDepth 20000 in
theorem gL_law_L_put : GoodIn wsL_law (va_wsS RL 51 yL_put wsL_put) := goodIn_app (goodIn_of _ (by decide +kernel)) ggL_law_L_put
set_option maxRecDepth 20000 in
theorem ggL_law_X1_put : GoodIn wsL_law wsX1_put := goodIn_r _ [75, 55, 56, 57, 58, 59, 5, 60, 76, 77, 78, 79, 26, 80, 377, 378, 379, 380, 381, 382, 383, 384, 385, 386, 387, 388, 389, 390, 391, 392, 393] (by decide +kernel) (by decide +kernel)
set_option maxRecDepth 20000 in
theorem gL_law_X1_put : GoodIn wsL_law (wsV RL 54 RX1 yX1_put wsX1_put) := goodIn_app (goodIn_of _ (by decide +kernel)) ggL_law_X1_put
set_option maxRecDepth 20000 in
theorem ggL_law_L_cut : GoodIn wsL_law wsL_cut := goodIn_ca (goodIn_r _ [83, 33, 84, 85, 86, 2, 87, 39, 40, 16, 17, 371, 372, 373, 374, 375, 376] (by decide +kernel) (by decide +kernel)) (goodIn_sub (fun _ h => List.mem_append_left _ (List.mem_append_right _ h)) (by decide +kernel))
set_option maxRecDepth 20000 in
theorem gL_law_L_cut : GoodIn wsL_law (va_wsS RL 55 yL_cut wsL_cut) := goodIn_app (goodIn_of _ (by decide +kernel)) ggL_law_L_cut
set_option maxRecDepth 20000 in
theorem ggL_law_X1_cut : GoodIn wsL_law wsX1_cut := goodIn_r _ [91, 55, 56, 92, 57, 58, 59, 5, 60, 377, 378, 379, 380, 381, 382, 383, 384, 385, 386, 387, 388, 389, 390, 391, 392, 393] (by decide +kernel) (by decide +kernel)
set_option maxRecDepth 20000 in
theorem gL_law_X1_cut : GoodIn wsL_law (wsV RL 57 RX1 yX1_cut wsX1_cut) := goodIn_app (goodIn_of _ (by decide +kernel)) ggL_law_X1_cut
set_option maxRecDepth 20000 in
theorem ggL_law_L_byteAt : GoodIn wsL_law wsL_byteAt := goodIn_ca (goodIn_r _ [95, 33, 96, 97, 98, 2, 99, 39, 40, 16, 100, 101, 102, 103, 15, 371, 372, 373, 374, 375, 376] (by decide +kernel) (by decide +kernel)) (goodIn_sub (fun _ h => List.mem_append_left _ (List.mem_append_right _ h)) (by decide +kernel))
set_option maxRecDepth 20000 in
theorem gL_law_L_byteAt : GoodIn wsL_law (va_wsS RL 58 yL_byteAt wsL_byteAt) := goodIn_app (goodIn_of _ (by decide +kernel)) ggL_law_L_byteAt
set_option maxRecDepth 20000 in
theorem ggL_law_X1_byteAt : GoodIn wsL_law wsX1_byteAt := goodIn_r _ [107, 55, 56, 26, 57, 58, 59, 5, 60, 377, 378, 379, 380, 381, 382, 383, 384, 385, 386, 387, 388, 389, 390, 391, 392, 393] (by decide +kernel) (by decide +kernel)
set_option maxRecDepth 20000 in
theorem gL_law_X1_byteAt : GoodIn wsL_law (wsV RL 60 RX1 yX1_byteAt wsX1_byteAt) := goodIn_app (goodIn_of _ (by decide +kernel)) ggL_law_X1_byteAt
set_option maxRecDepth 20000 in
theorem ggL_law_X0_next : GoodIn wsL_law wsX0_next := goodIn_r _ [111, 17, 20, 112, 113, 114, 2, 115, 16, 116, 100, 101, 102, 103, 15, 117, 118, 119, 120, 121, 122, 123, 124, 125, 126, 127, 128, 129, 130, 131, 132, 133, 134, 135, 136, 137, 138, 139, 140, 141, 142, 143, 144, 145, 146, 147, 148, 149, 150, 151, 152, 153, 154, 155, 156, 157, 158, 159, 160, 161, 162, 163, 164, 19, 165, 166, 167, 168, 169, 170, 171, 172, 173, 174, 175, 176, 18, 177, 178, 179, 180, 181, 182, 183, 184, 371, 372, 373, 374, 375, 376] (by decide +kernel) (by decide +kernel)
set_option maxRecDepth 20000 in
theorem gL_law_X0_next : GoodIn wsL_law (wsV RL 61 RX0 yX0_next wsX0_next) := goodIn_app (goodIn_of _ (by decide +kernel)) ggL_law_X0_next
set_option maxRecDepth 20000 in
theorem ggL_law_X1_next : GoodIn wsL_law wsX1_next := goodIn_r _ [188, 55, 92, 189, 190, 191, 192, 28, 193, 194, 195, 196, 5, 197, 56, 26, 198, 199, 200, 201, 202, 203, 204, 205, 206, 207, 208, 209, 210, 211, 212, 213, 214, 215, 216, 217, 218, 27, 219, 220, 221, 222, 223, 224, 225, 226, 377, 378, 379, 380, 381, 382, 383, 384, 385, 386, 387, 388, 389, 390, 391, 392, 393] (by decide +kernel) (by decide +kernel)
set_option maxRecDepth 20000 in
theorem gL_law_X1_next : GoodIn wsL_law (wsV RL 64 RX1 yX1_next wsX1_next) := goodIn_app (goodIn_of _ (by decide +kernel)) ggL_law_X1_next
set_option maxRecDepth 20000 in
theorem ggL_law_X0_skip : GoodIn wsL_law wsX0_skip := goodIn_r _ [230, 17, 231, 232, 233, 2, 234, 112, 113, 114, 115, 16, 116, 100, 101, 102, 103, 15, 117, 118, 119, 120, 121, 122, 123, 124, 125, 126, 127, 128, 129, 130, 131, 132, 133, 134, 135, 136, 137, 138, 139, 140, 141, 142, 143, 144, 145, 146, 147, 148, 149, 150, 151, 152, 153, 154, 155, 156, 157, 158, 159, 160, 177, 178, 179, 180, 181, 182, 183, 184, 161, 162, 163, 164, 20, 19, 169, 170, 171, 172, 173, 174, 175, 176, 18, 371, 372, 373, 374, 375, 376] (by decide +kernel) (by decide +kernel)
set_option maxRecDepth 20000 in
theorem gL_law_X0_skip : GoodIn wsL_law (wsV RL 65 RX0 yX0_skip wsX0_skip) := goodIn_app (goodIn_of _ (by decide +kernel)) ggL_law_X0_skip
set_option maxRecDepth 20000 in
theorem ggL_law_X1_skip : GoodIn wsL_law wsX1_skip := goodIn_r _ [238, 55, 92, 192, 190, 28, 239, 240, 241, 5, 242, 191, 189, 194, 195, 196, 197, 56, 26, 193, 198, 199, 200, 201, 202, 203, 204, 205, 206, 207, 208, 209, 210, 211, 212, 213, 214, 215, 216, 217, 218, 27, 219, 220, 221, 222, 223, 224, 225, 226, 377, 378, 379, 380, 381, 382, 383, 384, 385, 386, 387, 388, 389, 390, 391, 392, 393] (by decide +kernel) (by decide +kernel)
set_option maxRecDepth 20000 in
theorem gL_law_X1_skip : GoodIn wsL_law (wsV RL 68 RX1 yX1_skip wsX1_skip) := goodIn_app (goodIn_of _ (by decide +kernel)) ggL_law_X1_skip
set_option maxRecDepth 20000 in
theorem ggL_law_X0_kind : GoodIn wsL_law wsX0_kind := goodIn_r _ [246, 18, 149, 150, 151, 2, 152, 100, 101, 102, 103, 15, 127, 128, 129, 130, 371, 372, 373, 374, 375, 376] (by decide +kernel) (by decide +kernel)
set_option maxRecDepth 20000 in
theorem gL_law_X0_kind : GoodIn wsL_law (wsV RL 69 RX0 yX0_kind wsX0_kind) := goodIn_app (goodIn_of _ (by decide +kernel)) ggL_law_X0_kind
set_option maxRecDepth 20000 in
theorem ggL_law_X1_kind : GoodIn wsL_law wsX1_kind := goodIn_r _ [250, 55, 27, 377, 378, 379, 380, 381, 382, 383, 384, 385, 386, 387, 388, 389, 390, 391, 392, 393] (by decide +kernel) (by decide +kernel)
set_option maxRecDepth 20000 in
theorem gL_law_X1_kind : GoodIn wsL_law (wsV RL 72 RX1 yX1_kind wsX1_kind) := goodIn_app (goodIn_of _ (by decide +kernel)) ggL_law_X1_kind
set_option maxRecDepth 20000 in
theorem ggL_law_X0_valueLow : GoodIn wsL_law wsX0_valueLow := goodIn_r _ [254, 18, 131, 132, 133, 2, 134, 100, 101, 102, 103, 15, 120, 121, 122, 123, 135, 136, 137, 127, 128, 129, 130, 138, 139, 140, 141, 142, 143, 144, 371, 372, 373, 374, 375, 376] (by decide +kernel) (by decide +kernel)
set_option maxRecDepth 20000 in
theorem gL_law_X0_valueLow : GoodIn wsL_law (wsV RL 73 RX0 yX0_valueLow wsX0_valueLow) := goodIn_app (goodIn_of _ (by decide +kernel)) ggL_law_X0_valueLow
set_option maxRecDepth 20000 in
theorem ggL_law_X1_valueLow : GoodIn wsL_law wsX1_valueLow := goodIn_r _ [258, 55, 219, 377, 378, 379, 380, 381, 382, 383, 384, 385, 386, 387, 388, 389, 390, 391, 392, 393] (by decide +kernel) (by decide +kernel)
set_option maxRecDepth 20000 in
theorem gL_law_X1_valueLow : GoodIn wsL_law (wsV RL 76 RX1 yX1_valueLow wsX1_valueLow) := goodIn_app (goodIn_of _ (by decide +kernel)) ggL_law_X1_valueLow
set_option maxRecDepth 20000 in
theorem ggL_law_X0_valueHigh : GoodIn wsL_law wsX0_valueHigh := goodIn_r _ [262, 18, 149, 150, 151, 2, 152, 100, 101, 102, 103, 15, 127, 128, 129, 130, 263, 264, 265, 266, 181, 182, 183, 184, 117, 118, 119, 120, 121, 122, 123, 124, 125, 126, 131, 132, 133, 134, 135, 136, 137, 138, 139, 140, 141, 142, 143, 144, 371, 372, 373, 374, 375, 376] (by decide +kernel) (by decide +kernel)
set_option maxRecDepth 20000 in
theorem gL_law_X0_valueHigh : GoodIn wsL_law (wsV RL 77 RX0 yX0_valueHigh wsX0_valueHigh) := goodIn_app (goodIn_of _ (by decide +kernel)) ggL_law_X0_valueHigh
set_option maxRecDepth 20000 in
theorem ggL_law_X1_valueHigh : GoodIn wsL_law wsX1_valueHigh := goodIn_r _ [270, 55, 220, 377, 378, 379, 380, 381, 382, 383, 384, 385, 386, 387, 388, 389, 390, 391, 392, 393] (by decide +kernel) (by decide +kernel)
set_option maxRecDepth 20000 in
theorem gL_law_X1_valueHigh : GoodIn wsL_law (wsV RL 80 RX1 yX1_valueHigh wsX1_valueHigh) := goodIn_app (goodIn_of _ (by decide +kernel)) ggL_law_X1_valueHigh
set_option maxRecDepth 20000 in
theorem ggL_law_X0_payload : GoodIn wsL_law wsX0_payload := goodIn_r _ [274, 18, 145, 146, 147, 2, 148, 149, 150, 151, 152, 100, 101, 102, 103, 15, 127, 128, 129, 130, 153, 154, 155, 131, 132, 133, 134, 120, 121, 122, 123, 135, 136, 137, 138, 139, 140, 141, 142, 143, 144, 181, 182, 183, 184, 117, 118, 119, 124, 125, 126, 371, 372, 373, 374, 375, 376] (by decide +kernel) (by decide +kernel)
set_option maxRecDepth 20000 in
theorem gL_law_X0_payload : GoodIn wsL_law (wsV RL 81 RX0 yX0_payload wsX0_payload) := goodIn_app (goodIn_of _ (by decide +kernel)) ggL_law_X0_payload
set_option maxRecDepth 20000 in
theorem ggL_law_X1_payload : GoodIn wsL_law wsX1_payload := goodIn_r _ [278, 55, 222, 26, 221, 377, 378, 379, 380, 381, 382, 383, 384, 385, 386, 387, 388, 389, 390, 391, 392, 393] (by decide +kernel) (by decide +kernel)
set_option maxRecDepth 20000 in
theorem gL_law_X1_payload : GoodIn wsL_law (wsV RL 84 RX1 yX1_payload wsX1_payload) := goodIn_app (goodIn_of _ (by decide +kernel)) ggL_law_X1_payload
set_option maxRecDepth 20000 in
theorem ggL_law_X0_level : GoodIn wsL_law wsX0_level := goodIn_r _ [282, 20, 371, 372, 373, 374, 375, 376] (by decide +kernel) (by decide +kernel)
set_option maxRecDepth 20000 in
theorem gL_law_X0_level : GoodIn wsL_law (wsV RL 85 RX0 yX0_level wsX0_level) := goodIn_app (goodIn_of _ (by decide +kernel)) ggL_law_X0_level
set_option maxRecDepth 20000 in
theorem ggL_law_X1_level : GoodIn wsL_law wsX1_level := goodIn_r _ [286, 55, 190, 377, 378, 379, 380, 381, 382, 383, 384, 385, 386, 387, 388, 389, 390, 391, 392, 393] (by decide +kernel) (by decide +kernel)
set_option maxRecDepth 20000 in
theorem gL_law_X1_level : GoodIn wsL_law (wsV RL 88 RX1 yX1_level wsX1_level) := goodIn_app (goodIn_of _ (by decide +kernel)) ggL_law_X1_level
set_option maxRecDepth 20000 in
theorem ggL_law_L_remaining : GoodIn wsL_law wsL_remaining := goodIn_ca (goodIn_r _ [289, 33, 290, 291, 292, 2, 293, 39, 40, 20, 294, 19, 371, 372, 373, 374, 375, 376] (by decide +kernel) (by decide +kernel)) (goodIn_sub (fun _ h => List.mem_append_left _ (List.mem_append_right _ h)) (by decide +kernel))
set_option maxRecDepth 20000 in
theorem gL_law_L_remaining : GoodIn wsL_law (va_wsS RL 89 yL_remaining wsL_remaining) := goodIn_app (goodIn_of _ (by decide +kernel)) ggL_law_L_remaining
set_option maxRecDepth 20000 in
theorem ggL_law_X1_remaining : GoodIn wsL_law wsX1_remaining := goodIn_r _ [298, 55, 190, 299, 28, 57, 58, 59, 5, 60, 377, 378, 379, 380, 381, 382, 383, 384, 385, 386, 387, 388, 389, 390, 391, 392, 393] (by decide +kernel) (by decide +kernel)
set_option maxRecDepth 20000 in
theorem gL_law_X1_remaining : GoodIn wsL_law (wsV RL 91 RX1 yX1_remaining wsX1_remaining) := goodIn_app (goodIn_of _ (by decide +kernel)) ggL_law_X1_remaining
set_option maxRecDepth 20000 in
theorem ggL_law_X0_consumed : GoodIn wsL_law wsX0_consumed := goodIn_r _ [303, 17, 371, 372, 373, 374, 375, 376] (by decide +kernel) (by decide +kernel)
set_option maxRecDepth 20000 in
theorem gL_law_X0_consumed : GoodIn wsL_law (wsV RL 92 RX0 yX0_consumed wsX0_consumed) := goodIn_app (goodIn_of _ (by decide +kernel)) ggL_law_X0_consumed
set_option maxRecDepth 20000 in
theorem ggL_law_X1_consumed : GoodIn wsL_law wsX1_consumed := goodIn_r _ [307, 55, 92, 377, 378, 379, 380, 381, 382, 383, 384, 385, 386, 387, 388, 389, 390, 391, 392, 393] (by decide +kernel) (by decide +kernel)
set_option maxRecDepth 20000 in
theorem gL_law_X1_consumed : GoodIn wsL_law (wsV RL 95 RX1 yX1_consumed wsX1_consumed) := goodIn_app (goodIn_of _ (by decide +kernel)) ggL_law_X1_consumed
set_option maxRecDepth 20000 in
theorem ggL_law_X0_whole : GoodIn wsL_law wsX0_whole := goodIn_r _ [311, 17, 231, 232, 233, 2, 234, 112, 113, 114, 115, 16, 116, 100, 101, 102, 103, 15, 117, 118, 119, 120, 121, 122, 123, 124, 125, 126, 127, 128, 129, 130, 131, 132, 133, 134, 135, 136, 137, 138, 139, 140, 141, 142, 143, 144, 145, 146, 147, 148, 149, 150, 151, 152, 153, 154, 155, 156, 157, 158, 159, 160, 177, 178, 179, 180, 181, 182, 183, 184, 371, 372, 373, 374, 375, 376] (by decide +kernel) (by decide +kernel)
set_option maxRecDepth 20000 in
theorem gL_law_X0_whole : GoodIn wsL_law (wsV RL 96 RX0 yX0_whole wsX0_whole) := goodIn_app (goodIn_of _ (by decide +kernel)) ggL_law_X0_whole
set_option maxRecDepth 20000 in
theorem ggL_law_X1_whole : GoodIn wsL_law wsX1_whole := goodIn_r _ [315, 55, 92, 239, 240, 241, 5, 242, 191, 192, 189, 194, 195, 196, 197, 56, 26, 193, 198, 199, 200, 201, 202, 203, 204, 205, 206, 207, 208, 209, 210, 211, 212, 213, 214, 377, 378, 379, 380, 381, 382, 383, 384, 385, 386, 387, 388, 389, 390, 391, 392, 393] (by decide +kernel) (by decide +kernel)
set_option maxRecDepth 20000 in
theorem gL_law_X1_whole : GoodIn wsL_law (wsV RL 99 RX1 yX1_whole wsX1_whole) := goodIn_app (goodIn_of _ (by decide +kernel)) ggL_law_X1_whole
set_option maxRecDepth 20000 in
theorem ggL_law_L_pack : GoodIn wsL_law wsL_pack := goodIn_ca (goodIn_ca (goodIn_r _ [318, 33, 34, 319, 320, 321, 2, 322, 39, 40, 41, 42, 323, 324, 325, 326, 327, 328, 329, 330, 331, 332, 333, 334, 335, 336, 337, 338, 339, 340, 341, 342, 343, 344, 345, 117, 118, 119, 120, 121, 122, 123, 124, 125, 126, 127, 128, 129, 130, 43, 44, 45, 46, 16, 47, 48, 49, 50, 15, 371, 372, 373, 374, 375, 376] (by decide +kernel) (by decide +kernel)) (goodIn_sub (fun _ h => List.mem_append_left _ (List.mem_append_right _ h)) (by decide +kernel))) (goodIn_sub (fun _ h => List.mem_append_right _ h) (by decide +kernel))
set_option maxRecDepth 20000 in
theorem gL_law_L_pack : GoodIn wsL_law (va_wsS RL 100 yL_pack wsL_pack) := goodIn_app (goodIn_of _ (by decide +kernel)) ggL_law_L_pack
set_option maxRecDepth 20000 in
theorem ggL_law_X1_pack : GoodIn wsL_law wsX1_pack := goodIn_r _ [349, 55, 350, 351, 352, 57, 58, 59, 5, 60, 353, 354, 355, 356, 357, 358, 359, 56, 26, 76, 77, 78, 79, 80, 360, 361, 362, 363, 364, 365, 366, 367, 368, 369, 370, 200, 377, 378, 379, 380, 381, 382, 383, 384, 385, 386, 387, 388, 389, 390, 391, 392, 393] (by decide +kernel) (by decide +kernel)
set_option maxRecDepth 20000 in
theorem gL_law_X1_pack : GoodIn wsL_law (wsV RL 103 RX1 yX1_pack wsX1_pack) := goodIn_app (goodIn_of _ (by decide +kernel)) ggL_law_X1_pack
abbrev vwCl : List vw_C := [(RX0, TX0, 6), (RX1, TX1, 17)]
