set_option maxRecDepth 20000 in
theorem ggX4_isCounted_X2_cameWarm : GoodIn wsX4_isCounted wsX2_cameWarm := goodIn_r _ [7, 8, 9, 10, 11, 12, 13, 14, 6, 15, 16, 17, 18, 19, 20, 21, 22, 23, 24, 25, 26, 27, 28, 29, 30, 31, 32, 33, 34, 35, 36, 37, 38, 39] (by decide +kernel) (by decide +kernel)
set_option maxRecDepth 20000 in
theorem gX4_isCounted_X2_cameWarm : GoodIn wsX4_isCounted (wsV RX4 231 RX2 yX2_cameWarm wsX2_cameWarm) := goodIn_app (goodIn_of _ (by decide +kernel)) ggX4_isCounted_X2_cameWarm
set_option maxRecDepth 20000 in
theorem ggX4_lastOnDuty_X4_riderAt : GoodIn wsX4_lastOnDuty wsX4_riderAt := goodIn_r _ [11, 1, 12, 28, 29, 30, 31, 32, 33, 34, 35, 36, 37] (by decide +kernel) (by decide +kernel)
set_option maxRecDepth 20000 in
theorem gX4_lastOnDuty_X4_riderAt : GoodIn wsX4_lastOnDuty (wsV RX4 55 RX4 yX4_riderAt wsX4_riderAt) := goodIn_app (goodIn_of _ (by decide +kernel)) ggX4_lastOnDuty_X4_riderAt
set_option maxRecDepth 20000 in
theorem ggX4_lastOnDuty_X3_carries : GoodIn wsX4_lastOnDuty wsX3_carries := goodIn_r _ [17, 18, 19, 20, 10, 21, 38, 39, 40, 41, 42, 43, 44, 45, 46, 47, 48] (by decide +kernel) (by decide +kernel)
set_option maxRecDepth 20000 in
theorem gX4_lastOnDuty_X3_carries : GoodIn wsX4_lastOnDuty (wsV RX4 121 RX3 yX3_carries wsX3_carries) := goodIn_app (goodIn_of _ (by decide +kernel)) ggX4_lastOnDuty_X3_carries
set_option maxRecDepth 20000 in
theorem ggX4_lastOnDuty_X3_isOnDuty : GoodIn wsX4_lastOnDuty wsX3_isOnDuty := goodIn_r _ [25, 26, 27, 38, 39, 40, 41, 42, 43, 44, 45, 46, 47, 48] (by decide +kernel) (by decide +kernel)
set_option maxRecDepth 20000 in
theorem gX4_lastOnDuty_X3_isOnDuty : GoodIn wsX4_lastOnDuty (wsV RX4 124 RX3 yX3_isOnDuty wsX3_isOnDuty) := goodIn_app (goodIn_of _ (by decide +kernel)) ggX4_lastOnDuty_X3_isOnDuty
set_option maxRecDepth 20000 in
theorem ggX4_findChain_X4_tryRiders : GoodIn wsX4_findChain wsX4_tryRiders := goodIn_r _ [12, 13, 1, 3, 14, 15, 16, 17, 18, 19, 20, 11, 21, 22, 23, 24, 25, 26, 27, 28, 29, 30, 31, 32, 33, 34, 35, 36, 37, 38, 39, 40, 41, 42, 43, 44, 45, 46, 47, 48, 49, 50, 51, 52, 53, 54, 55, 56, 57, 58, 6, 7, 59, 60, 61, 62, 63, 64, 65, 66, 67, 68, 69, 70, 71, 72, 73, 74, 75, 76, 77, 78, 79, 80, 5, 81, 82, 83, 84, 85, 86, 87, 88, 89, 90, 91, 92, 93, 94, 95, 96, 97, 98, 99, 100, 101, 8, 9, 10, 102, 103, 104, 105, 106, 107, 108, 109, 110, 111, 112, 113, 114, 115, 133, 134, 135, 136, 137, 138, 139, 140, 141, 142, 143, 125, 126, 127, 128, 129, 130, 131, 132] (by decide +kernel) (by decide +kernel)
set_option maxRecDepth 20000 in
theorem gX4_findChain_X4_tryRiders : GoodIn wsX4_findChain (wsV RX4 242 RX4 yX4_tryRiders wsX4_tryRiders) := goodIn_app (goodIn_of _ (by decide +kernel)) ggX4_findChain_X4_tryRiders
set_option maxRecDepth 20000 in
theorem ggX4_tryRiders_X4_riderAt : GoodIn wsX4_tryRiders wsX4_riderAt := goodIn_r _ [12, 1, 13, 103, 104, 105, 106, 107, 108, 109, 110, 111, 112] (by decide +kernel) (by decide +kernel)
set_option maxRecDepth 20000 in
theorem gX4_tryRiders_X4_riderAt : GoodIn wsX4_tryRiders (wsV RX4 55 RX4 yX4_riderAt wsX4_riderAt) := goodIn_app (goodIn_of _ (by decide +kernel)) ggX4_tryRiders_X4_riderAt
set_option maxRecDepth 20000 in
theorem ggX4_tryRiders_X3_carries : GoodIn wsX4_tryRiders wsX3_carries := goodIn_r _ [18, 19, 20, 21, 11, 22, 113, 114, 115, 116, 117, 118, 119, 120, 121, 122, 123] (by decide +kernel) (by decide +kernel)
set_option maxRecDepth 20000 in
theorem gX4_tryRiders_X3_carries : GoodIn wsX4_tryRiders (wsV RX4 121 RX3 yX3_carries wsX3_carries) := goodIn_app (goodIn_of _ (by decide +kernel)) ggX4_tryRiders_X3_carries
set_option maxRecDepth 20000 in
theorem ggX4_tryRiders_X0_isRiddenBy : GoodIn wsX4_tryRiders wsX0_isRiddenBy := goodIn_r _ [27, 28, 124, 125, 126, 127, 128, 129, 130, 131] (by decide +kernel) (by decide +kernel)
set_option maxRecDepth 20000 in
theorem gX4_tryRiders_X0_isRiddenBy : GoodIn wsX4_tryRiders (wsV RX4 246 RX0 yX0_isRiddenBy wsX0_isRiddenBy) := goodIn_app (goodIn_of _ (by decide +kernel)) ggX4_tryRiders_X0_isRiddenBy
set_option maxRecDepth 20000 in
theorem ggX4_tryRiders_X4_thereFrom : GoodIn wsX4_tryRiders wsX4_thereFrom := goodIn_r _ [32, 33, 34, 35, 4, 5, 6, 7, 36, 37, 38, 11, 39, 40, 41, 42, 43, 44, 45, 113, 114, 115, 116, 117, 118, 119, 120, 121, 122, 123, 103, 104, 105, 106, 107, 108, 109, 110, 111, 112] (by decide +kernel) (by decide +kernel)
set_option maxRecDepth 20000 in
theorem gX4_tryRiders_X4_thereFrom : GoodIn wsX4_tryRiders (wsV RX4 207 RX4 yX4_thereFrom wsX4_thereFrom) := goodIn_app (goodIn_of _ (by decide +kernel)) ggX4_tryRiders_X4_thereFrom
set_option maxRecDepth 20000 in
theorem ggX4_tryRiders_X4_isTooLate : GoodIn wsX4_tryRiders wsX4_isTooLate := goodIn_r _ [49, 50, 51, 52, 53, 54, 26, 55, 56, 57, 103, 104, 105, 106, 107, 108, 109, 110, 111, 112, 124, 125, 126, 127, 128, 129, 130, 131] (by decide +kernel) (by decide +kernel)
set_option maxRecDepth 20000 in
theorem gX4_tryRiders_X4_isTooLate : GoodIn wsX4_tryRiders (wsV RX4 249 RX4 yX4_isTooLate wsX4_isTooLate) := goodIn_app (goodIn_of _ (by decide +kernel)) ggX4_tryRiders_X4_isTooLate
set_option maxRecDepth 20000 in
theorem ggX4_tryRiders_X4_waitsUntil : GoodIn wsX4_tryRiders wsX4_waitsUntil := goodIn_r _ [61, 2, 62, 63, 8, 9, 10, 11, 12, 1, 13, 103, 104, 105, 106, 107, 108, 109, 110, 111, 112, 124, 125, 126, 127, 128, 129, 130, 131, 113, 114, 115, 116, 117, 118, 119, 120, 121, 122, 123] (by decide +kernel) (by decide +kernel)
set_option maxRecDepth 20000 in
theorem gX4_tryRiders_X4_waitsUntil : GoodIn wsX4_tryRiders (wsV RX4 252 RX4 yX4_waitsUntil wsX4_waitsUntil) := goodIn_app (goodIn_of _ (by decide +kernel)) ggX4_tryRiders_X4_waitsUntil
set_option maxRecDepth 20000 in
theorem ggX4_tryRiders_X0_open : GoodIn wsX4_tryRiders wsX0_open := goodIn_r _ [67, 28, 68, 69, 124, 125, 126, 127, 128, 129, 130, 131] (by decide +kernel) (by decide +kernel)
set_option maxRecDepth 20000 in
theorem gX4_tryRiders_X0_open : GoodIn wsX4_tryRiders (wsV RX4 255 RX0 yX0_open wsX0_open) := goodIn_app (goodIn_of _ (by decide +kernel)) ggX4_tryRiders_X0_open
set_option maxRecDepth 20000 in
theorem ggX4_tryRiders_X4_tryEnds : GoodIn wsX4_tryRiders wsX4_tryEnds := goodIn_r _ [99, 2, 74, 45, 100, 101, 102, 11, 73, 63, 75, 76, 77, 26, 78, 68, 36, 37, 38, 39, 40, 41, 42, 43, 44, 79, 80, 81, 82, 83, 84, 85, 86, 87, 57, 56, 88, 89, 90, 91, 50, 51, 52, 53, 54, 55, 92, 93, 94, 95, 28, 69, 96, 97, 98, 0, 1, 3, 4, 5, 6, 7, 8, 9, 10, 12, 13, 14, 15, 16, 17, 18, 19, 20, 21, 22, 23, 24, 25, 27, 29, 30, 31, 32, 33, 34, 35, 46, 47, 48, 49, 58, 59, 60, 61, 62, 64, 65, 66, 67, 70, 71, 72, 103, 104, 105, 106, 107, 108, 109, 110, 111, 112, 113, 114, 115, 116, 117, 118, 119, 120, 121, 122, 123, 124, 125, 126, 127, 128, 129, 130, 131] (by decide +kernel) (by decide +kernel)
set_option maxRecDepth 20000 in
theorem gX4_tryRiders_X4_tryEnds : GoodIn wsX4_tryRiders (wsV RX4 259 RX4 yX4_tryEnds wsX4_tryEnds) := goodIn_app (goodIn_of _ (by decide +kernel)) ggX4_tryRiders_X4_tryEnds
set_option maxRecDepth 20000 in
theorem ggX4_isTooLate_X0_lastEnd : GoodIn wsX4_isTooLate wsX0_lastEnd := goodIn_r _ [7, 8, 9, 20, 21, 22, 23, 24, 25, 26, 27] (by decide +kernel) (by decide +kernel)
set_option maxRecDepth 20000 in
theorem gX4_isTooLate_X0_lastEnd : GoodIn wsX4_isTooLate (wsV RX4 154 RX0 yX0_lastEnd wsX0_lastEnd) := goodIn_app (goodIn_of _ (by decide +kernel)) ggX4_isTooLate_X0_lastEnd
set_option maxRecDepth 20000 in
theorem ggX4_waitsUntil_X4_riderAt : GoodIn wsX4_waitsUntil wsX4_riderAt := goodIn_r _ [8, 9, 10, 11, 12, 13, 14, 15, 16, 17, 18, 19, 20] (by decide +kernel) (by decide +kernel)
set_option maxRecDepth 20000 in
theorem gX4_waitsUntil_X4_riderAt : GoodIn wsX4_waitsUntil (wsV RX4 55 RX4 yX4_riderAt wsX4_riderAt) := goodIn_app (goodIn_of _ (by decide +kernel)) ggX4_waitsUntil_X4_riderAt
set_option maxRecDepth 20000 in
theorem ggX4_tryEnds_X4_tryEnd : GoodIn wsX4_tryEnds wsX4_tryEnd := goodIn_r _ [8, 1, 9, 2, 10, 11, 12, 13, 14, 15, 16, 17, 18, 7, 19, 20, 21, 22, 23, 24, 3, 25, 26, 27, 28, 29, 30, 31, 32, 33, 34, 35, 36, 37, 38, 39, 40, 41, 42, 43, 44, 45, 46, 47, 48, 49, 50, 51, 52, 53, 54, 0, 4, 5, 6, 55, 56, 57, 58, 59, 60, 61, 62, 63, 64, 65, 66, 67, 68, 69, 70, 71, 72, 73, 74, 75, 76, 77, 78, 79, 80, 81, 82, 83, 84, 85, 86, 87, 88, 89, 90, 91, 92, 93, 94, 95, 96, 97, 98, 99, 100, 101, 102, 103, 104, 105, 106, 107, 108, 109, 110, 111, 112, 113, 114, 115, 116, 117, 118, 119, 120, 121, 122, 123, 124, 125, 126, 127, 128, 129, 130, 131] (by decide +kernel) (by decide +kernel)
set_option maxRecDepth 20000 in
theorem gX4_tryEnds_X4_tryEnd : GoodIn wsX4_tryEnds (wsV RX4 265 RX4 yX4_tryEnd wsX4_tryEnd) := goodIn_app (goodIn_of _ (by decide +kernel)) ggX4_tryEnds_X4_tryEnd
set_option maxRecDepth 20000 in
theorem ggX4_tryEnd_X0_fromOf : GoodIn wsX4_tryEnd wsX0_fromOf := goodIn_r _ [8, 9, 124, 125, 126, 127, 128, 129, 130, 131] (by decide +kernel) (by decide +kernel)
set_option maxRecDepth 20000 in
theorem gX4_tryEnd_X0_fromOf : GoodIn wsX4_tryEnd (wsV RX4 269 RX0 yX0_fromOf wsX0_fromOf) := goodIn_app (goodIn_of _ (by decide +kernel)) ggX4_tryEnd_X0_fromOf
set_option maxRecDepth 20000 in
theorem ggX4_tryEnd_X4_wayOf : GoodIn wsX4_tryEnd wsX4_wayOf := goodIn_r _ [14, 15, 16, 17, 18, 13, 19, 20, 113, 114, 115, 116, 117, 118, 119, 120, 121, 122, 123, 103, 104, 105, 106, 107, 108, 109, 110, 111, 112] (by decide +kernel) (by decide +kernel)
set_option maxRecDepth 20000 in
theorem gX4_tryEnd_X4_wayOf : GoodIn wsX4_tryEnd (wsV RX4 80 RX4 yX4_wayOf wsX4_wayOf) := goodIn_app (goodIn_of _ (by decide +kernel)) ggX4_tryEnd_X4_wayOf
set_option maxRecDepth 20000 in
theorem ggX4_tryEnd_X0_comesFrom : GoodIn wsX4_tryEnd wsX0_comesFrom := goodIn_r _ [24, 9, 124, 125, 126, 127, 128, 129, 130, 131] (by decide +kernel) (by decide +kernel)
set_option maxRecDepth 20000 in
theorem gX4_tryEnd_X0_comesFrom : GoodIn wsX4_tryEnd (wsV RX4 272 RX0 yX0_comesFrom wsX0_comesFrom) := goodIn_app (goodIn_of _ (by decide +kernel)) ggX4_tryEnd_X0_comesFrom
set_option maxRecDepth 20000 in
theorem ggX4_tryEnd_X0_close : GoodIn wsX4_tryEnd wsX0_close := goodIn_r _ [28, 29, 30, 31, 124, 125, 126, 127, 128, 129, 130, 131] (by decide +kernel) (by decide +kernel)
set_option maxRecDepth 20000 in
theorem gX4_tryEnd_X0_close : GoodIn wsX4_tryEnd (wsV RX4 275 RX0 yX0_close wsX0_close) := goodIn_app (goodIn_of _ (by decide +kernel)) ggX4_tryEnd_X0_close
set_option maxRecDepth 20000 in
theorem ggX4_tryEnd_X4_keepIfBetter : GoodIn wsX4_tryEnd wsX4_keepIfBetter := goodIn_r _ [35, 1, 36, 37, 38, 39, 40, 7, 41, 31, 30, 42, 43, 44, 45, 46, 9, 29, 47, 103, 104, 105, 106, 107, 108, 109, 110, 111, 112, 124, 125, 126, 127, 128, 129, 130, 131] (by decide +kernel) (by decide +kernel)
set_option maxRecDepth 20000 in
theorem gX4_tryEnd_X4_keepIfBetter : GoodIn wsX4_tryEnd (wsV RX4 278 RX4 yX4_keepIfBetter wsX4_keepIfBetter) := goodIn_app (goodIn_of _ (by decide +kernel)) ggX4_tryEnd_X4_keepIfBetter
set_option maxRecDepth 20000 in
theorem ggX4_tryEnd_X4_tryRiders : GoodIn wsX4_tryEnd wsX4_tryRiders := goodIn_r _ [55, 56, 1, 57, 58, 59, 60, 61, 62, 63, 64, 13, 65, 66, 67, 68, 69, 70, 71, 72, 73, 74, 75, 76, 77, 78, 7, 79, 46, 80, 81, 82, 83, 84, 85, 86, 10, 11, 12, 14, 15, 16, 17, 18, 19, 20, 87, 88, 89, 90, 36, 37, 38, 39, 40, 41, 31, 30, 91, 92, 93, 94, 95, 2, 96, 97, 98, 99, 9, 47, 100, 101, 102, 0, 3, 4, 5, 6, 8, 21, 22, 23, 24, 25, 26, 27, 28, 29, 32, 33, 34, 35, 42, 43, 44, 45, 48, 49, 50, 51, 52, 53, 54, 103, 104, 105, 106, 107, 108, 109, 110, 111, 112, 113, 114, 115, 116, 117, 118, 119, 120, 121, 122, 123, 124, 125, 126, 127, 128, 129, 130, 131] (by decide +kernel) (by decide +kernel)
set_option maxRecDepth 20000 in
theorem gX4_tryEnd_X4_tryRiders : GoodIn wsX4_tryEnd (wsV RX4 242 RX4 yX4_tryRiders wsX4_tryRiders) := goodIn_app (goodIn_of _ (by decide +kernel)) ggX4_tryEnd_X4_tryRiders
set_option maxRecDepth 20000 in
theorem ggX4_keepIfBetter_X0_lastEnd : GoodIn wsX4_keepIfBetter wsX0_lastEnd := goodIn_r _ [8, 9, 10, 29, 30, 31, 32, 33, 34, 35, 36] (by decide +kernel) (by decide +kernel)
set_option maxRecDepth 20000 in
theorem gX4_keepIfBetter_X0_lastEnd : GoodIn wsX4_keepIfBetter (wsV RX4 154 RX0 yX0_lastEnd wsX0_lastEnd) := goodIn_app (goodIn_of _ (by decide +kernel)) ggX4_keepIfBetter_X0_lastEnd
set_option maxRecDepth 20000 in
theorem ggX4_keepIfBetter_X0_take : GoodIn wsX4_keepIfBetter wsX0_take := goodIn_r _ [14, 15, 16, 17, 18, 10, 9, 29, 30, 31, 32, 33, 34, 35, 36] (by decide +kernel) (by decide +kernel)
set_option maxRecDepth 20000 in
theorem gX4_keepIfBetter_X0_take : GoodIn wsX4_keepIfBetter (wsV RX4 281 RX0 yX0_take wsX0_take) := goodIn_app (goodIn_of _ (by decide +kernel)) ggX4_keepIfBetter_X0_take
set_option maxRecDepth 20000 in
theorem ggX4_rideChosen_X4_riderAt : GoodIn wsX4_rideChosen wsX4_riderAt := goodIn_r _ [20, 21, 22, 56, 57, 58, 59, 60, 61, 62, 63, 64, 65] (by decide +kernel) (by decide +kernel)
set_option maxRecDepth 20000 in
theorem gX4_rideChosen_X4_riderAt : GoodIn wsX4_rideChosen (wsV RX4 55 RX4 yX4_riderAt wsX4_riderAt) := goodIn_app (goodIn_of _ (by decide +kernel)) ggX4_rideChosen_X4_riderAt
