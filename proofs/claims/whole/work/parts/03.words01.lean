set_option maxRecDepth 20000 in
theorem ggX4_way_X4_wayOf : GoodIn wsX4_way wsX4_wayOf := goodIn_r _ [11, 12, 13, 14, 15, 4, 16, 17, 28, 29, 30, 31, 32, 33, 34, 35, 36, 37, 38, 18, 19, 20, 21, 22, 23, 24, 25, 26, 27] (by decide +kernel) (by decide +kernel)
set_option maxRecDepth 20000 in
theorem gX4_way_X4_wayOf : GoodIn wsX4_way (wsV RX4 80 RX4 yX4_wayOf wsX4_wayOf) := goodIn_app (goodIn_of _ (by decide +kernel)) ggX4_way_X4_wayOf
set_option maxRecDepth 20000 in
theorem ggX4_of_X4_riderAt : GoodIn wsX4_of wsX4_riderAt := goodIn_r _ [15, 16, 17, 29, 30, 31, 32, 33, 34, 35, 36, 37, 38] (by decide +kernel) (by decide +kernel)
set_option maxRecDepth 20000 in
theorem gX4_of_X4_riderAt : GoodIn wsX4_of (wsV RX4 55 RX4 yX4_riderAt wsX4_riderAt) := goodIn_app (goodIn_of _ (by decide +kernel)) ggX4_of_X4_riderAt
set_option maxRecDepth 20000 in
theorem ggX4_duty_X4_isMinute : GoodIn wsX4_duty wsX4_isMinute := goodIn_r _ [5] (by decide +kernel) (by decide +kernel)
set_option maxRecDepth 20000 in
theorem gX4_duty_X4_isMinute : GoodIn wsX4_duty (va_wsS RX4 70 yX4_isMinute wsX4_isMinute) := goodIn_app (goodIn_of _ (by decide +kernel)) ggX4_duty_X4_isMinute
set_option maxRecDepth 20000 in
theorem ggX4_duty_X4_isKind : GoodIn wsX4_duty wsX4_isKind := goodIn_r _ [8] (by decide +kernel) (by decide +kernel)
set_option maxRecDepth 20000 in
theorem gX4_duty_X4_isKind : GoodIn wsX4_duty (va_wsS RX4 118 yX4_isKind wsX4_isKind) := goodIn_app (goodIn_of _ (by decide +kernel)) ggX4_duty_X4_isKind
set_option maxRecDepth 20000 in
theorem ggX4_duty_X4_riderAt : GoodIn wsX4_duty wsX4_riderAt := goodIn_r _ [12, 1, 13, 29, 30, 31, 32, 33, 34, 35, 36, 37, 38] (by decide +kernel) (by decide +kernel)
set_option maxRecDepth 20000 in
theorem gX4_duty_X4_riderAt : GoodIn wsX4_duty (wsV RX4 55 RX4 yX4_riderAt wsX4_riderAt) := goodIn_app (goodIn_of _ (by decide +kernel)) ggX4_duty_X4_riderAt
set_option maxRecDepth 20000 in
theorem ggX4_duty_X3_carries : GoodIn wsX4_duty wsX3_carries := goodIn_r _ [18, 19, 20, 21, 4, 22, 39, 40, 41, 42, 43, 44, 45, 46, 47, 48, 49] (by decide +kernel) (by decide +kernel)
set_option maxRecDepth 20000 in
theorem gX4_duty_X3_carries : GoodIn wsX4_duty (wsV RX4 121 RX3 yX3_carries wsX3_carries) := goodIn_app (goodIn_of _ (by decide +kernel)) ggX4_duty_X3_carries
set_option maxRecDepth 20000 in
theorem ggX4_duty_X3_isOnDuty : GoodIn wsX4_duty wsX3_isOnDuty := goodIn_r _ [26, 27, 28, 39, 40, 41, 42, 43, 44, 45, 46, 47, 48, 49] (by decide +kernel) (by decide +kernel)
set_option maxRecDepth 20000 in
theorem gX4_duty_X3_isOnDuty : GoodIn wsX4_duty (wsV RX4 124 RX3 yX3_isOnDuty wsX3_isOnDuty) := goodIn_app (goodIn_of _ (by decide +kernel)) ggX4_duty_X3_isOnDuty
set_option maxRecDepth 20000 in
theorem ggX4_bare_X4_isMinute : GoodIn wsX4_bare wsX4_isMinute := goodIn_r _ [8] (by decide +kernel) (by decide +kernel)
set_option maxRecDepth 20000 in
theorem gX4_bare_X4_isMinute : GoodIn wsX4_bare (va_wsS RX4 70 yX4_isMinute wsX4_isMinute) := goodIn_app (goodIn_of _ (by decide +kernel)) ggX4_bare_X4_isMinute
set_option maxRecDepth 20000 in
theorem ggX4_bare_X4_isKind : GoodIn wsX4_bare wsX4_isKind := goodIn_r _ [11] (by decide +kernel) (by decide +kernel)
set_option maxRecDepth 20000 in
theorem gX4_bare_X4_isKind : GoodIn wsX4_bare (va_wsS RX4 118 yX4_isKind wsX4_isKind) := goodIn_app (goodIn_of _ (by decide +kernel)) ggX4_bare_X4_isKind
set_option maxRecDepth 20000 in
theorem ggX4_bare_X4_lastOnDuty : GoodIn wsX4_bare wsX4_lastOnDuty := goodIn_r _ [15, 16, 17, 1, 2, 3, 4, 18, 19, 20, 7, 21, 22, 23, 24, 25, 26, 27, 28, 29, 30, 31, 32, 33, 34, 35, 36, 37, 38, 39, 40, 41, 42, 43, 44, 45, 46, 47, 48, 49, 50, 51, 52, 53, 54, 55, 56, 57, 58] (by decide +kernel) (by decide +kernel)
set_option maxRecDepth 20000 in
theorem gX4_bare_X4_lastOnDuty : GoodIn wsX4_bare (wsV RX4 127 RX4 yX4_lastOnDuty wsX4_lastOnDuty) := goodIn_app (goodIn_of _ (by decide +kernel)) ggX4_bare_X4_lastOnDuty
set_option maxRecDepth 20000 in
theorem ggX4_call_X4_isKind : GoodIn wsX4_call wsX4_isKind := goodIn_r _ [9] (by decide +kernel) (by decide +kernel)
set_option maxRecDepth 20000 in
theorem gX4_call_X4_isKind : GoodIn wsX4_call (va_wsS RX4 118 yX4_isKind wsX4_isKind) := goodIn_app (goodIn_of _ (by decide +kernel)) ggX4_call_X4_isKind
set_option maxRecDepth 20000 in
theorem ggX4_call_X4_isPlace : GoodIn wsX4_call wsX4_isPlace := goodIn_r _ [13, 14, 34, 35, 36, 37, 38, 39, 40, 41, 42, 43] (by decide +kernel) (by decide +kernel)
set_option maxRecDepth 20000 in
theorem gX4_call_X4_isPlace : GoodIn wsX4_call (wsV RX4 51 RX4 yX4_isPlace wsX4_isPlace) := goodIn_app (goodIn_of _ (by decide +kernel)) ggX4_call_X4_isPlace
set_option maxRecDepth 20000 in
theorem ggX4_call_X4_isMinute : GoodIn wsX4_call wsX4_isMinute := goodIn_r _ [17] (by decide +kernel) (by decide +kernel)
set_option maxRecDepth 20000 in
theorem gX4_call_X4_isMinute : GoodIn wsX4_call (va_wsS RX4 70 yX4_isMinute wsX4_isMinute) := goodIn_app (goodIn_of _ (by decide +kernel)) ggX4_call_X4_isMinute
set_option maxRecDepth 20000 in
theorem ggX4_call_X2_init : GoodIn wsX4_call wsX2_init := goodIn_r _ [20, 21, 22, 23, 24, 25, 26, 27, 28, 29, 30, 31, 32, 33, 44, 45, 46, 47, 48, 49, 50, 51, 52] (by decide +kernel) (by decide +kernel)
set_option maxRecDepth 20000 in
theorem gX4_call_X2_init : GoodIn wsX4_call (wsX2_init) := ggX4_call_X2_init
set_option maxRecDepth 20000 in
theorem ggX4_best_X4_requestAt : GoodIn wsX4_best wsX4_requestAt := goodIn_r _ [9, 10, 11, 128, 129, 130, 131, 132, 133, 134, 135, 136, 137] (by decide +kernel) (by decide +kernel)
set_option maxRecDepth 20000 in
theorem gX4_best_X4_requestAt : GoodIn wsX4_best (wsV RX4 137 RX4 yX4_requestAt wsX4_requestAt) := goodIn_app (goodIn_of _ (by decide +kernel)) ggX4_best_X4_requestAt
set_option maxRecDepth 20000 in
theorem ggX4_best_X4_findChain : GoodIn wsX4_best wsX4_findChain := goodIn_r _ [15, 16, 17, 18, 19, 20, 4, 21, 22, 23, 24, 8, 25, 26, 27, 28, 29, 30, 31, 32, 33, 34, 35, 36, 37, 38, 39, 40, 41, 42, 43, 44, 45, 46, 47, 48, 49, 50, 51, 52, 53, 54, 55, 56, 57, 58, 59, 60, 61, 62, 63, 64, 65, 66, 67, 68, 69, 70, 71, 72, 73, 74, 75, 76, 77, 78, 79, 80, 81, 82, 83, 84, 85, 86, 87, 88, 89, 90, 91, 92, 93, 94, 95, 96, 97, 98, 99, 100, 101, 102, 103, 104, 105, 106, 107, 108, 109, 110, 111, 112, 113, 114, 115, 116, 117, 118, 128, 129, 130, 131, 132, 133, 134, 135, 136, 137, 119, 120, 121, 122, 123, 124, 125, 126, 127, 138, 139, 140, 141, 142, 143, 144, 145, 146, 147, 148, 149, 150, 151, 152, 153, 154, 155, 156] (by decide +kernel) (by decide +kernel)
set_option maxRecDepth 20000 in
theorem gX4_best_X4_findChain : GoodIn wsX4_best (wsV RX4 150 RX4 yX4_findChain wsX4_findChain) := goodIn_app (goodIn_of _ (by decide +kernel)) ggX4_best_X4_findChain
set_option maxRecDepth 20000 in
theorem ggX4_best_X0_lastEnd : GoodIn wsX4_best wsX0_lastEnd := goodIn_r _ [75, 76, 77, 138, 139, 140, 141, 142, 143, 144, 145] (by decide +kernel) (by decide +kernel)
set_option maxRecDepth 20000 in
theorem gX4_best_X0_lastEnd : GoodIn wsX4_best (wsV RX4 154 RX0 yX0_lastEnd wsX0_lastEnd) := goodIn_app (goodIn_of _ (by decide +kernel)) ggX4_best_X0_lastEnd
set_option maxRecDepth 20000 in
theorem ggX4_send_X4_requestAt : GoodIn wsX4_send wsX4_requestAt := goodIn_r _ [9, 10, 11, 178, 179, 180, 181, 182, 183, 184, 185, 186, 187] (by decide +kernel) (by decide +kernel)
set_option maxRecDepth 20000 in
theorem gX4_send_X4_requestAt : GoodIn wsX4_send (wsV RX4 137 RX4 yX4_requestAt wsX4_requestAt) := goodIn_app (goodIn_of _ (by decide +kernel)) ggX4_send_X4_requestAt
set_option maxRecDepth 20000 in
theorem ggX4_send_X4_findChain : GoodIn wsX4_send wsX4_findChain := goodIn_r _ [15, 16, 17, 18, 19, 20, 21, 22, 23, 24, 25, 8, 26, 27, 28, 29, 30, 31, 32, 33, 34, 35, 36, 37, 38, 39, 40, 41, 42, 43, 44, 45, 46, 47, 48, 49, 50, 51, 52, 53, 54, 55, 56, 57, 58, 59, 60, 61, 62, 63, 64, 65, 66, 67, 68, 69, 70, 71, 72, 73, 74, 75, 76, 77, 78, 79, 80, 81, 82, 83, 84, 85, 86, 87, 88, 89, 90, 91, 92, 93, 94, 95, 96, 97, 98, 99, 100, 101, 102, 103, 104, 105, 106, 107, 108, 109, 110, 111, 112, 113, 114, 115, 116, 117, 118, 119, 178, 179, 180, 181, 182, 183, 184, 185, 186, 187, 169, 170, 171, 172, 173, 174, 175, 176, 177, 188, 189, 190, 191, 192, 193, 194, 195, 196, 197, 198, 199, 200, 201, 202, 203, 204, 205, 206] (by decide +kernel) (by decide +kernel)
set_option maxRecDepth 20000 in
theorem gX4_send_X4_findChain : GoodIn wsX4_send (wsV RX4 150 RX4 yX4_findChain wsX4_findChain) := goodIn_app (goodIn_of _ (by decide +kernel)) ggX4_send_X4_findChain
set_option maxRecDepth 20000 in
theorem ggX4_send_X4_rideChosen : GoodIn wsX4_send wsX4_rideChosen := goodIn_r _ [123, 21, 22, 83, 124, 125, 126, 127, 128, 129, 130, 56, 57, 131, 132, 133, 32, 33, 34, 8, 35, 27, 36, 134, 135, 136, 137, 138, 139, 140, 141, 142, 143, 144, 145, 146, 147, 148, 149, 150, 151, 152, 153, 154, 155, 156, 157, 49, 158, 77, 90, 159, 74, 75, 76, 78, 178, 179, 180, 181, 182, 183, 184, 185, 186, 187, 188, 189, 190, 191, 192, 193, 194, 195, 207, 208, 209, 210, 211, 212, 213, 214, 196, 197, 198, 199, 200, 201, 202, 203, 204, 205, 206, 169, 170, 171, 172, 173, 174, 175, 176, 177] (by decide +kernel) (by decide +kernel)
set_option maxRecDepth 20000 in
theorem gX4_send_X4_rideChosen : GoodIn wsX4_send (wsV RX4 158 RX4 yX4_rideChosen wsX4_rideChosen) := goodIn_app (goodIn_of _ (by decide +kernel)) ggX4_send_X4_rideChosen
set_option maxRecDepth 20000 in
theorem ggX4_send_X2_lastEnd : GoodIn wsX4_send wsX2_lastEnd := goodIn_r _ [163, 153, 164, 165, 166, 167, 151, 168, 154, 169, 170, 171, 172, 173, 174, 175, 176, 177, 207, 208, 209, 210, 211, 212, 213, 214] (by decide +kernel) (by decide +kernel)
set_option maxRecDepth 20000 in
theorem gX4_send_X2_lastEnd : GoodIn wsX4_send (wsV RX4 162 RX2 yX2_lastEnd wsX2_lastEnd) := goodIn_app (goodIn_of _ (by decide +kernel)) ggX4_send_X2_lastEnd
set_option maxRecDepth 20000 in
theorem ggX4_told_X4_requestAt : GoodIn wsX4_told wsX4_requestAt := goodIn_r _ [13, 14, 15, 37, 38, 39, 40, 41, 42, 43, 44, 45, 46] (by decide +kernel) (by decide +kernel)
set_option maxRecDepth 20000 in
theorem gX4_told_X4_requestAt : GoodIn wsX4_told (wsV RX4 137 RX4 yX4_requestAt wsX4_requestAt) := goodIn_app (goodIn_of _ (by decide +kernel)) ggX4_told_X4_requestAt
set_option maxRecDepth 20000 in
theorem ggX4_told_X2_lastEnd : GoodIn wsX4_told wsX2_lastEnd := goodIn_r _ [20, 21, 22, 23, 24, 25, 19, 26, 27, 28, 29, 30, 31, 32, 33, 34, 35, 36, 47, 48, 49, 50, 51, 52, 53, 54] (by decide +kernel) (by decide +kernel)
set_option maxRecDepth 20000 in
theorem gX4_told_X2_lastEnd : GoodIn wsX4_told (wsV RX4 162 RX2 yX2_lastEnd wsX2_lastEnd) := goodIn_app (goodIn_of _ (by decide +kernel)) ggX4_told_X2_lastEnd
set_option maxRecDepth 20000 in
theorem ggX4_leg_X4_requestAt : GoodIn wsX4_leg wsX4_requestAt := goodIn_r _ [11, 12, 13, 29, 30, 31, 32, 33, 34, 35, 36, 37, 38] (by decide +kernel) (by decide +kernel)
set_option maxRecDepth 20000 in
theorem gX4_leg_X4_requestAt : GoodIn wsX4_leg (wsV RX4 137 RX4 yX4_requestAt wsX4_requestAt) := goodIn_app (goodIn_of _ (by decide +kernel)) ggX4_leg_X4_requestAt
set_option maxRecDepth 20000 in
theorem ggX4_leg_X2_legAt : GoodIn wsX4_leg wsX2_legAt := goodIn_r _ [18, 19, 20, 39, 40, 41, 42, 43, 44, 45, 46, 47] (by decide +kernel) (by decide +kernel)
set_option maxRecDepth 20000 in
theorem gX4_leg_X2_legAt : GoodIn wsX4_leg (wsV RX4 178 RX2 yX2_legAt wsX2_legAt) := goodIn_app (goodIn_of _ (by decide +kernel)) ggX4_leg_X2_legAt
