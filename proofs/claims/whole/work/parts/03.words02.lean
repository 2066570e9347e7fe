set_option maxRecDepth 20000 in
theorem ggX4_hand_X4_requestAt : GoodIn wsX4_hand wsX4_requestAt := goodIn_r _ [9, 10, 11, 45, 46, 47, 48, 49, 50, 51, 52, 53, 54] (by decide +kernel) (by decide +kernel)
set_option maxRecDepth 20000 in
theorem gX4_hand_X4_requestAt : GoodIn wsX4_hand (wsV RX4 137 RX4 yX4_requestAt wsX4_requestAt) := goodIn_app (goodIn_of _ (by decide +kernel)) ggX4_hand_X4_requestAt
set_option maxRecDepth 20000 in
theorem ggX4_hand_X4_isMinute : GoodIn wsX4_hand wsX4_isMinute := goodIn_r _ [14] (by decide +kernel) (by decide +kernel)
set_option maxRecDepth 20000 in
theorem gX4_hand_X4_isMinute : GoodIn wsX4_hand (va_wsS RX4 70 yX4_isMinute wsX4_isMinute) := goodIn_app (goodIn_of _ (by decide +kernel)) ggX4_hand_X4_isMinute
set_option maxRecDepth 20000 in
theorem ggX4_hand_X2_lastEnd : GoodIn wsX4_hand wsX2_lastEnd := goodIn_r _ [19, 20, 21, 22, 23, 24, 18, 25, 26, 28, 29, 30, 31, 32, 33, 34, 35, 36, 37, 38, 39, 40, 41, 42, 43, 44] (by decide +kernel) (by decide +kernel)
set_option maxRecDepth 20000 in
theorem gX4_hand_X2_lastEnd : GoodIn wsX4_hand (wsV RX4 162 RX2 yX2_lastEnd wsX2_lastEnd) := goodIn_app (goodIn_of _ (by decide +kernel)) ggX4_hand_X2_lastEnd
set_option maxRecDepth 20000 in
theorem ggX4_hand_X2_legAt : GoodIn wsX4_hand wsX2_legAt := goodIn_r _ [25, 20, 26, 28, 29, 30, 31, 32, 33, 34, 35, 36] (by decide +kernel) (by decide +kernel)
set_option maxRecDepth 20000 in
theorem gX4_hand_X2_legAt : GoodIn wsX4_hand (wsV RX4 178 RX2 yX2_legAt wsX2_legAt) := goodIn_app (goodIn_of _ (by decide +kernel)) ggX4_hand_X2_legAt
set_option maxRecDepth 20000 in
theorem ggX4_fail_X4_requestAt : GoodIn wsX4_fail wsX4_requestAt := goodIn_r _ [8, 9, 10, 189, 190, 191, 192, 193, 194, 195, 196, 197, 198] (by decide +kernel) (by decide +kernel)
set_option maxRecDepth 20000 in
theorem gX4_fail_X4_requestAt : GoodIn wsX4_fail (wsV RX4 137 RX4 yX4_requestAt wsX4_requestAt) := goodIn_app (goodIn_of _ (by decide +kernel)) ggX4_fail_X4_requestAt
set_option maxRecDepth 20000 in
theorem ggX4_fail_X4_mayFail : GoodIn wsX4_fail wsX4_mayFail := goodIn_r _ [13, 14, 15, 16, 17, 18, 19, 20, 21, 22, 23, 24, 199, 200, 201, 202, 203, 204, 205, 206, 207, 208, 209, 210, 211, 212, 213, 214, 215] (by decide +kernel) (by decide +kernel)
set_option maxRecDepth 20000 in
theorem gX4_fail_X4_mayFail : GoodIn wsX4_fail (va_wsS RX4 196 yX4_mayFail wsX4_mayFail) := goodIn_app (goodIn_of _ (by decide +kernel)) ggX4_fail_X4_mayFail
set_option maxRecDepth 20000 in
theorem ggX4_fail_X2_legAt : GoodIn wsX4_fail wsX2_legAt := goodIn_r _ [22, 23, 24, 207, 208, 209, 210, 211, 212, 213, 214, 215] (by decide +kernel) (by decide +kernel)
set_option maxRecDepth 20000 in
theorem gX4_fail_X2_legAt : GoodIn wsX4_fail (wsV RX4 178 RX2 yX2_legAt wsX2_legAt) := goodIn_app (goodIn_of _ (by decide +kernel)) ggX4_fail_X2_legAt
set_option maxRecDepth 20000 in
theorem ggX4_fail_X4_dropLegsBehind : GoodIn wsX4_fail wsX4_dropLegsBehind := goodIn_r _ [28, 16, 29, 30, 31, 32, 33, 34, 35, 15, 14, 18, 19, 20, 21, 22, 23, 24, 36, 37, 38, 7, 39, 40, 41, 207, 208, 209, 210, 211, 212, 213, 214, 215, 199, 200, 201, 202, 203, 204, 205, 206, 216, 217, 218, 219, 220, 221, 222, 223, 224, 225, 226, 189, 190, 191, 192, 193, 194, 195, 196, 197, 198] (by decide +kernel) (by decide +kernel)
set_option maxRecDepth 20000 in
theorem gX4_fail_X4_dropLegsBehind : GoodIn wsX4_fail (wsV RX4 199 RX4 yX4_dropLegsBehind wsX4_dropLegsBehind) := goodIn_app (goodIn_of _ (by decide +kernel)) ggX4_fail_X4_dropLegsBehind
set_option maxRecDepth 20000 in
theorem ggX4_fail_X4_failLeg : GoodIn wsX4_fail wsX4_failLeg := goodIn_r _ [45, 29, 35, 15, 2, 31, 46, 47, 17, 36, 37, 38, 7, 39, 40, 41, 199, 200, 201, 202, 203, 204, 205, 206, 216, 217, 218, 219, 220, 221, 222, 223, 224, 225, 226, 189, 190, 191, 192, 193, 194, 195, 196, 197, 198] (by decide +kernel) (by decide +kernel)
set_option maxRecDepth 20000 in
theorem gX4_fail_X4_failLeg : GoodIn wsX4_fail (wsV RX4 203 RX4 yX4_failLeg wsX4_failLeg) := goodIn_app (goodIn_of _ (by decide +kernel)) ggX4_fail_X4_failLeg
set_option maxRecDepth 20000 in
theorem ggX4_fail_X4_findChain : GoodIn wsX4_fail wsX4_findChain := goodIn_r _ [51, 52, 53, 54, 55, 56, 57, 58, 59, 60, 61, 7, 62, 40, 63, 64, 65, 66, 36, 37, 38, 39, 41, 67, 68, 69, 70, 71, 72, 73, 74, 75, 76, 77, 78, 79, 80, 81, 82, 83, 84, 85, 31, 33, 86, 87, 88, 89, 90, 91, 92, 93, 94, 95, 96, 97, 98, 99, 100, 101, 102, 103, 104, 105, 106, 107, 108, 109, 110, 111, 112, 113, 114, 115, 116, 117, 118, 119, 120, 121, 122, 123, 124, 125, 126, 127, 128, 129, 130, 131, 132, 133, 134, 135, 136, 137, 138, 139, 140, 141, 142, 143, 144, 145, 146, 147, 189, 190, 191, 192, 193, 194, 195, 196, 197, 198, 207, 208, 209, 210, 211, 212, 213, 214, 215, 227, 228, 229, 230, 231, 232, 233, 234, 216, 217, 218, 219, 220, 221, 222, 223, 224, 225, 226] (by decide +kernel) (by decide +kernel)
set_option maxRecDepth 20000 in
theorem gX4_fail_X4_findChain : GoodIn wsX4_fail (wsV RX4 150 RX4 yX4_findChain wsX4_findChain) := goodIn_app (goodIn_of _ (by decide +kernel)) ggX4_fail_X4_findChain
set_option maxRecDepth 20000 in
theorem ggX4_fail_X4_rideChosen : GoodIn wsX4_fail wsX4_rideChosen := goodIn_r _ [151, 57, 58, 111, 152, 153, 154, 155, 156, 157, 158, 31, 33, 159, 34, 35, 36, 37, 38, 7, 39, 40, 41, 160, 161, 162, 163, 164, 165, 166, 167, 168, 169, 170, 171, 172, 173, 174, 175, 176, 21, 177, 23, 24, 178, 179, 180, 79, 181, 105, 118, 182, 102, 103, 104, 106, 189, 190, 191, 192, 193, 194, 195, 196, 197, 198, 227, 228, 229, 230, 231, 232, 233, 234, 199, 200, 201, 202, 203, 204, 205, 206, 216, 217, 218, 219, 220, 221, 222, 223, 224, 225, 226, 207, 208, 209, 210, 211, 212, 213, 214, 215] (by decide +kernel) (by decide +kernel)
set_option maxRecDepth 20000 in
theorem gX4_fail_X4_rideChosen : GoodIn wsX4_fail (wsV RX4 158 RX4 yX4_rideChosen wsX4_rideChosen) := goodIn_app (goodIn_of _ (by decide +kernel)) ggX4_fail_X4_rideChosen
set_option maxRecDepth 20000 in
theorem ggX4_fail_X2_lastEnd : GoodIn wsX4_fail wsX2_lastEnd := goodIn_r _ [186, 23, 187, 188, 19, 20, 21, 22, 24, 207, 208, 209, 210, 211, 212, 213, 214, 215, 199, 200, 201, 202, 203, 204, 205, 206] (by decide +kernel) (by decide +kernel)
set_option maxRecDepth 20000 in
theorem gX4_fail_X2_lastEnd : GoodIn wsX4_fail (wsV RX4 162 RX2 yX2_lastEnd wsX2_lastEnd) := goodIn_app (goodIn_of _ (by decide +kernel)) ggX4_fail_X2_lastEnd
set_option maxRecDepth 20000 in
theorem ggX4_next_X4_isKind : GoodIn wsX4_next wsX4_isKind := goodIn_r _ [7] (by decide +kernel) (by decide +kernel)
set_option maxRecDepth 20000 in
theorem gX4_next_X4_isKind : GoodIn wsX4_next (va_wsS RX4 118 yX4_isKind wsX4_isKind) := goodIn_app (goodIn_of _ (by decide +kernel)) ggX4_next_X4_isKind
set_option maxRecDepth 20000 in
theorem ggX4_next_X4_isPlace : GoodIn wsX4_next wsX4_isPlace := goodIn_r _ [11, 12, 43, 44, 45, 46, 47, 48, 49, 50, 51, 52] (by decide +kernel) (by decide +kernel)
set_option maxRecDepth 20000 in
theorem gX4_next_X4_isPlace : GoodIn wsX4_next (wsV RX4 51 RX4 yX4_isPlace wsX4_isPlace) := goodIn_app (goodIn_of _ (by decide +kernel)) ggX4_next_X4_isPlace
set_option maxRecDepth 20000 in
theorem ggX4_next_X4_riderAt : GoodIn wsX4_next wsX4_riderAt := goodIn_r _ [16, 1, 17, 43, 44, 45, 46, 47, 48, 49, 50, 51, 52] (by decide +kernel) (by decide +kernel)
set_option maxRecDepth 20000 in
theorem gX4_next_X4_riderAt : GoodIn wsX4_next (wsV RX4 55 RX4 yX4_riderAt wsX4_riderAt) := goodIn_app (goodIn_of _ (by decide +kernel)) ggX4_next_X4_riderAt
set_option maxRecDepth 20000 in
theorem ggX4_next_X3_carries : GoodIn wsX4_next wsX3_carries := goodIn_r _ [22, 23, 24, 25, 6, 26, 53, 54, 55, 56, 57, 58, 59, 60, 61, 62, 63] (by decide +kernel) (by decide +kernel)
set_option maxRecDepth 20000 in
theorem gX4_next_X3_carries : GoodIn wsX4_next (wsV RX4 121 RX3 yX3_carries wsX3_carries) := goodIn_app (goodIn_of _ (by decide +kernel)) ggX4_next_X3_carries
set_option maxRecDepth 20000 in
theorem ggX4_next_X4_thereFrom : GoodIn wsX4_next wsX4_thereFrom := goodIn_r _ [30, 31, 32, 33, 34, 35, 36, 37, 38, 39, 40, 6, 41, 42, 8, 9, 10, 11, 12, 53, 54, 55, 56, 57, 58, 59, 60, 61, 62, 63, 43, 44, 45, 46, 47, 48, 49, 50, 51, 52] (by decide +kernel) (by decide +kernel)
set_option maxRecDepth 20000 in
theorem gX4_next_X4_thereFrom : GoodIn wsX4_next (wsV RX4 207 RX4 yX4_thereFrom wsX4_thereFrom) := goodIn_app (goodIn_of _ (by decide +kernel)) ggX4_next_X4_thereFrom
set_option maxRecDepth 20000 in
theorem ggX4_wayOf_X4_isPlace : GoodIn wsX4_wayOf wsX4_isPlace := goodIn_r _ [6, 7, 19, 20, 21, 22, 23, 24, 25, 26, 27, 28] (by decide +kernel) (by decide +kernel)
set_option maxRecDepth 20000 in
theorem gX4_wayOf_X4_isPlace : GoodIn wsX4_wayOf (wsV RX4 51 RX4 yX4_isPlace wsX4_isPlace) := goodIn_app (goodIn_of _ (by decide +kernel)) ggX4_wayOf_X4_isPlace
set_option maxRecDepth 20000 in
theorem ggX4_settleWays_X4_roadWithin : GoodIn wsX4_settleWays wsX4_roadWithin := goodIn_r _ [7, 8, 9, 10, 11, 6, 12, 13, 14, 15, 16, 34, 35, 36, 37, 38, 39, 40, 41, 42, 43] (by decide +kernel) (by decide +kernel)
set_option maxRecDepth 20000 in
theorem gX4_settleWays_X4_roadWithin : GoodIn wsX4_settleWays (wsV RX4 217 RX4 yX4_roadWithin wsX4_roadWithin) := goodIn_app (goodIn_of _ (by decide +kernel)) ggX4_settleWays_X4_roadWithin
set_option maxRecDepth 20000 in
theorem ggX4_settleWays_X3_shortenWays : GoodIn wsX4_settleWays wsX3_shortenWays := goodIn_r _ [21, 22, 23, 24, 25, 26, 27, 28, 29, 30, 31, 32, 33] (by decide +kernel) (by decide +kernel)
set_option maxRecDepth 20000 in
theorem gX4_settleWays_X3_shortenWays : GoodIn wsX4_settleWays (wsV RX4 221 RX3 yX3_shortenWays wsX3_shortenWays) := goodIn_app (goodIn_of _ (by decide +kernel)) ggX4_settleWays_X3_shortenWays
set_option maxRecDepth 20000 in
theorem ggX4_roadWithin_X4_isPlace : GoodIn wsX4_roadWithin wsX4_isPlace := goodIn_r _ [6, 7, 11, 12, 13, 14, 15, 16, 17, 18, 19, 20] (by decide +kernel) (by decide +kernel)
set_option maxRecDepth 20000 in
theorem gX4_roadWithin_X4_isPlace : GoodIn wsX4_roadWithin (wsV RX4 51 RX4 yX4_isPlace wsX4_isPlace) := goodIn_app (goodIn_of _ (by decide +kernel)) ggX4_roadWithin_X4_isPlace
set_option maxRecDepth 20000 in
theorem ggX4_roadWithin_X4_hasBit : GoodIn wsX4_roadWithin wsX4_hasBit := goodIn_r _ [10] (by decide +kernel) (by decide +kernel)
set_option maxRecDepth 20000 in
theorem gX4_roadWithin_X4_hasBit : GoodIn wsX4_roadWithin (va_wsS RX4 67 yX4_hasBit wsX4_hasBit) := goodIn_app (goodIn_of _ (by decide +kernel)) ggX4_roadWithin_X4_hasBit
set_option maxRecDepth 20000 in
theorem ggX4_thereFrom_X4_wayOf : GoodIn wsX4_thereFrom wsX4_wayOf := goodIn_r _ [12, 13, 14, 15, 16, 11, 17, 18, 19, 20, 21, 22, 23, 24, 25, 26, 27, 28, 29, 30, 31, 32, 33, 34, 35, 36, 37, 38, 39] (by decide +kernel) (by decide +kernel)
set_option maxRecDepth 20000 in
theorem gX4_thereFrom_X4_wayOf : GoodIn wsX4_thereFrom (wsV RX4 80 RX4 yX4_wayOf wsX4_wayOf) := goodIn_app (goodIn_of _ (by decide +kernel)) ggX4_thereFrom_X4_wayOf
set_option maxRecDepth 20000 in
theorem ggX4_countRequests_X4_requestAt : GoodIn wsX4_countRequests wsX4_requestAt := goodIn_r _ [6, 1, 7, 33, 34, 35, 36, 37, 38, 39, 40, 41, 42] (by decide +kernel) (by decide +kernel)
set_option maxRecDepth 20000 in
theorem gX4_countRequests_X4_requestAt : GoodIn wsX4_countRequests (wsV RX4 137 RX4 yX4_requestAt wsX4_requestAt) := goodIn_app (goodIn_of _ (by decide +kernel)) ggX4_countRequests_X4_requestAt
set_option maxRecDepth 20000 in
theorem ggX4_countRequests_X4_isCounted : GoodIn wsX4_countRequests wsX4_isCounted := goodIn_r _ [10, 11, 12, 13, 14, 15, 16, 17, 18, 19, 20, 21, 22, 23, 24, 25, 26, 27, 28, 29, 30, 31, 32, 43, 44, 45, 46, 47, 48, 49, 50, 51, 52, 53, 54, 55, 56, 57, 58, 59] (by decide +kernel) (by decide +kernel)
set_option maxRecDepth 20000 in
theorem gX4_countRequests_X4_isCounted : GoodIn wsX4_countRequests (va_wsS RX4 227 yX4_isCounted wsX4_isCounted) := goodIn_app (goodIn_of _ (by decide +kernel)) ggX4_countRequests_X4_isCounted
