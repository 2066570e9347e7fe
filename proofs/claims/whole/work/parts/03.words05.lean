set_option maxRecDepth 20000 in
theorem ggX5_bare_X5_in : GoodIn wsX5_bare wsX5_in := goodIn_r _ [5] (by decide +kernel) (by decide +kernel)
set_option maxRecDepth 20000 in
theorem gX5_bare_X5_in : GoodIn wsX5_bare (va_wsS RX5 108 yX5_in wsX5_in) := goodIn_app (goodIn_of _ (by decide +kernel)) ggX5_bare_X5_in
set_option maxRecDepth 20000 in
theorem ggX5_bare_X5_onDuty : GoodIn wsX5_bare wsX5_onDuty := goodIn_r _ [9, 10, 11, 12, 13, 14, 15, 4, 16, 17, 18, 2, 3, 5, 19, 20, 21, 22, 23, 24, 25, 26, 27, 28, 29, 30, 31, 32, 33, 34, 35, 36, 37, 38, 39, 40, 41, 42, 43, 44, 45, 46, 47, 48, 49, 50, 51, 52, 53] (by decide +kernel) (by decide +kernel)
set_option maxRecDepth 20000 in
theorem gX5_bare_X5_onDuty : GoodIn wsX5_bare (wsV RX5 138 RX5 yX5_onDuty wsX5_onDuty) := goodIn_app (goodIn_of _ (by decide +kernel)) ggX5_bare_X5_onDuty
set_option maxRecDepth 20000 in
theorem ggX5_tryLeg_X5_mayCarry : GoodIn wsX5_tryLeg wsX5_mayCarry := goodIn_r _ [25, 26, 27, 42, 43, 44, 45, 46, 47, 48, 49, 50, 51, 52, 53, 54, 55, 56, 57, 58, 59, 60, 61, 62, 63, 64, 65, 66, 67, 68, 69, 70, 71, 72, 73, 74, 75, 76] (by decide +kernel) (by decide +kernel)
set_option maxRecDepth 20000 in
theorem gX5_tryLeg_X5_mayCarry : GoodIn wsX5_tryLeg (wsV RX5 134 RX5 yX5_mayCarry wsX5_mayCarry) := goodIn_app (goodIn_of _ (by decide +kernel)) ggX5_tryLeg_X5_mayCarry
set_option maxRecDepth 20000 in
theorem ggX5_tryLeg_X5_wayOf : GoodIn wsX5_tryLeg wsX5_wayOf := goodIn_r _ [31, 32, 4, 33, 12, 34, 42, 43, 44, 45, 46, 47, 48, 49, 50, 51, 52, 53, 54, 55, 56, 57, 58, 59, 60, 61, 62, 63, 64, 65, 66, 67, 68, 69, 70, 71, 72, 73, 74, 75, 76] (by decide +kernel) (by decide +kernel)
set_option maxRecDepth 20000 in
theorem gX5_tryLeg_X5_wayOf : GoodIn wsX5_tryLeg (wsV RX5 126 RX5 yX5_wayOf wsX5_wayOf) := goodIn_app (goodIn_of _ (by decide +kernel)) ggX5_tryLeg_X5_wayOf
set_option maxRecDepth 20000 in
theorem ggX5_tryLeg_X5_tryLeg : GoodIn wsX5_tryLeg wsX5_tryLeg := goodIn_r _ [0, 1, 2, 3, 4, 5, 6, 7, 8, 9, 10, 11, 12, 13, 14, 15, 16, 17, 18, 19, 20, 21, 22, 23, 24, 25, 26, 27, 28, 29, 30, 31, 32, 33, 34, 35, 36, 37, 38, 39, 40, 41, 42, 43, 44, 45, 46, 47, 48, 49, 50, 51, 52, 53, 54, 55, 56, 57, 58, 59, 60, 61, 62, 63, 64, 65, 66, 67, 68, 69, 70, 71, 72, 73, 74, 75, 76] (by decide +kernel) (by decide +kernel)
set_option maxRecDepth 20000 in
theorem gX5_tryLeg_X5_tryLeg : GoodIn wsX5_tryLeg (wsV RX5 150 RX5 yX5_tryLeg wsX5_tryLeg) := goodIn_app (goodIn_of _ (by decide +kernel)) ggX5_tryLeg_X5_tryLeg
set_option maxRecDepth 20000 in
theorem ggX5_tryLeg_X5_isBetter : GoodIn wsX5_tryLeg wsX5_isBetter := goodIn_r _ [41, 16, 15, 20, 2, 17, 13, 18, 42, 43, 44, 45, 46, 47, 48, 49, 50, 51, 52, 53, 54, 55, 56, 57, 58, 59, 60, 61, 62, 63, 64, 65, 66, 67, 68, 69, 70, 71, 72, 73, 74, 75, 76] (by decide +kernel) (by decide +kernel)
set_option maxRecDepth 20000 in
theorem gX5_tryLeg_X5_isBetter : GoodIn wsX5_tryLeg (wsV RX5 154 RX5 yX5_isBetter wsX5_isBetter) := goodIn_app (goodIn_of _ (by decide +kernel)) ggX5_tryLeg_X5_isBetter
set_option maxRecDepth 20000 in
theorem ggX5_findBest_X5_tryLeg : GoodIn wsX5_findBest wsX5_tryLeg := goodIn_r _ [6, 7, 8, 9, 10, 11, 12, 13, 14, 15, 16, 17, 18, 19, 20, 21, 1, 22, 23, 24, 25, 26, 27, 28, 5, 29, 30, 31, 32, 33, 34, 35, 36, 37, 38, 2, 3, 4, 39, 40, 41, 42, 43, 44, 45, 46, 47, 48, 49, 50, 51, 52, 53, 54, 55, 56, 57, 58, 59, 60, 61, 62, 63, 64, 65, 66, 67, 68, 69, 70, 71, 72, 73, 74, 75, 76, 77] (by decide +kernel) (by decide +kernel)
set_option maxRecDepth 20000 in
theorem gX5_findBest_X5_tryLeg : GoodIn wsX5_findBest (wsV RX5 150 RX5 yX5_tryLeg wsX5_tryLeg) := goodIn_app (goodIn_of _ (by decide +kernel)) ggX5_findBest_X5_tryLeg
set_option maxRecDepth 20000 in
theorem ggX5_call_X5_in : GoodIn wsX5_call wsX5_in := goodIn_r _ [11] (by decide +kernel) (by decide +kernel)
set_option maxRecDepth 20000 in
theorem gX5_call_X5_in : GoodIn wsX5_call (va_wsS RX5 108 yX5_in wsX5_in) := goodIn_app (goodIn_of _ (by decide +kernel)) ggX5_call_X5_in
set_option maxRecDepth 20000 in
theorem ggX5_call_X5_isPlace : GoodIn wsX5_call wsX5_isPlace := goodIn_r _ [15, 16, 8, 9, 10, 11, 17, 18, 19, 20, 21, 22, 23, 24, 25, 26, 27, 28, 29, 30, 31, 32, 33, 34, 35, 36, 37, 38, 39, 40, 41, 42, 43, 44, 45, 46, 47, 48, 49, 50, 51] (by decide +kernel) (by decide +kernel)
set_option maxRecDepth 20000 in
theorem gX5_call_X5_isPlace : GoodIn wsX5_call (wsV RX5 118 RX5 yX5_isPlace wsX5_isPlace) := goodIn_app (goodIn_of _ (by decide +kernel)) ggX5_call_X5_isPlace
set_option maxRecDepth 20000 in
theorem ggX5_best_X5_isCall : GoodIn wsX5_best wsX5_isCall := goodIn_r _ [13, 14, 15, 16, 12, 17, 61, 62, 63, 64, 65, 66, 67, 68, 69, 70, 71, 72, 73, 74, 75, 76, 77, 78, 79, 80, 81, 82, 83, 84, 85, 86, 87, 88, 89, 90, 91, 92, 93, 94, 95] (by decide +kernel) (by decide +kernel)
set_option maxRecDepth 20000 in
theorem gX5_best_X5_isCall : GoodIn wsX5_best (wsV RX5 157 RX5 yX5_isCall wsX5_isCall) := goodIn_app (goodIn_of _ (by decide +kernel)) ggX5_best_X5_isCall
set_option maxRecDepth 20000 in
theorem ggX5_best_X5_findBest : GoodIn wsX5_best wsX5_findBest := goodIn_r _ [21, 8, 22, 23, 24, 12, 25, 26, 27, 28, 29, 30, 31, 32, 33, 34, 35, 36, 37, 38, 39, 40, 41, 42, 43, 7, 44, 45, 46, 47, 48, 49, 50, 51, 52, 53, 54, 55, 56, 57, 58, 59, 60, 61, 62, 63, 64, 65, 66, 67, 68, 69, 70, 71, 72, 73, 74, 75, 76, 77, 78, 79, 80, 81, 82, 83, 84, 85, 86, 87, 88, 89, 90, 91, 92, 93, 94, 95] (by decide +kernel) (by decide +kernel)
set_option maxRecDepth 20000 in
theorem gX5_best_X5_findBest : GoodIn wsX5_best (wsV RX5 160 RX5 yX5_findBest wsX5_findBest) := goodIn_app (goodIn_of _ (by decide +kernel)) ggX5_best_X5_findBest
set_option maxRecDepth 20000 in
theorem ggX5_send_X5_isCall : GoodIn wsX5_send wsX5_isCall := goodIn_r _ [12, 13, 14, 15, 11, 16, 75, 76, 77, 78, 79, 80, 81, 82, 83, 84, 85, 86, 87, 88, 89, 90, 91, 92, 93, 94, 95, 96, 97, 98, 99, 100, 101, 102, 103, 104, 105, 106, 107, 108, 109] (by decide +kernel) (by decide +kernel)
set_option maxRecDepth 20000 in
theorem gX5_send_X5_isCall : GoodIn wsX5_send (wsV RX5 157 RX5 yX5_isCall wsX5_isCall) := goodIn_app (goodIn_of _ (by decide +kernel)) ggX5_send_X5_isCall
set_option maxRecDepth 20000 in
theorem ggX5_send_X5_findBest : GoodIn wsX5_send wsX5_findBest := goodIn_r _ [20, 21, 22, 23, 24, 11, 25, 26, 27, 28, 29, 30, 31, 32, 33, 34, 35, 36, 37, 38, 39, 40, 41, 42, 43, 44, 45, 46, 47, 48, 49, 50, 51, 52, 53, 54, 55, 56, 57, 58, 59, 60, 61, 75, 76, 77, 78, 79, 80, 81, 82, 83, 84, 85, 86, 87, 88, 89, 90, 91, 92, 93, 94, 95, 96, 97, 98, 99, 100, 101, 102, 103, 104, 105, 106, 107, 108, 109] (by decide +kernel) (by decide +kernel)
set_option maxRecDepth 20000 in
theorem gX5_send_X5_findBest : GoodIn wsX5_send (wsV RX5 160 RX5 yX5_findBest wsX5_findBest) := goodIn_app (goodIn_of _ (by decide +kernel)) ggX5_send_X5_findBest
set_option maxRecDepth 20000 in
theorem ggX5_send_X5_ride : GoodIn wsX5_send wsX5_ride := goodIn_r _ [65, 21, 41, 66, 67, 42, 43, 44, 28, 30, 68, 69, 70, 75, 76, 77, 78, 79, 80, 81, 82, 83, 84, 85, 86, 87, 88, 89, 90, 91, 92, 93, 94, 95, 96, 97, 98, 99, 100, 101, 102, 103, 104, 105, 106, 107, 108, 109] (by decide +kernel) (by decide +kernel)
set_option maxRecDepth 20000 in
theorem gX5_send_X5_ride : GoodIn wsX5_send (wsV RX5 164 RX5 yX5_ride wsX5_ride) := goodIn_app (goodIn_of _ (by decide +kernel)) ggX5_send_X5_ride
set_option maxRecDepth 20000 in
theorem ggX5_send_X5_endOf : GoodIn wsX5_send wsX5_endOf := goodIn_r _ [74, 67, 66, 75, 76, 77, 78, 79, 80, 81, 82, 83, 84, 85, 86, 87, 88, 89, 90, 91, 92, 93, 94, 95, 96, 97, 98, 99, 100, 101, 102, 103, 104, 105, 106, 107, 108, 109] (by decide +kernel) (by decide +kernel)
set_option maxRecDepth 20000 in
theorem gX5_send_X5_endOf : GoodIn wsX5_send (wsV RX5 130 RX5 yX5_endOf wsX5_endOf) := goodIn_app (goodIn_of _ (by decide +kernel)) ggX5_send_X5_endOf
set_option maxRecDepth 20000 in
theorem ggX5_told_X5_isCall : GoodIn wsX5_told wsX5_isCall := goodIn_r _ [13, 14, 15, 16, 12, 17, 23, 24, 25, 26, 27, 28, 29, 30, 31, 32, 33, 34, 35, 36, 37, 38, 39, 40, 41, 42, 43, 44, 45, 46, 47, 48, 49, 50, 51, 52, 53, 54, 55, 56, 57] (by decide +kernel) (by decide +kernel)
set_option maxRecDepth 20000 in
theorem gX5_told_X5_isCall : GoodIn wsX5_told (wsV RX5 157 RX5 yX5_isCall wsX5_isCall) := goodIn_app (goodIn_of _ (by decide +kernel)) ggX5_told_X5_isCall
set_option maxRecDepth 20000 in
theorem ggX5_told_X5_endOf : GoodIn wsX5_told wsX5_endOf := goodIn_r _ [21, 22, 8, 23, 24, 25, 26, 27, 28, 29, 30, 31, 32, 33, 34, 35, 36, 37, 38, 39, 40, 41, 42, 43, 44, 45, 46, 47, 48, 49, 50, 51, 52, 53, 54, 55, 56, 57] (by decide +kernel) (by decide +kernel)
set_option maxRecDepth 20000 in
theorem gX5_told_X5_endOf : GoodIn wsX5_told (wsV RX5 130 RX5 yX5_endOf wsX5_endOf) := goodIn_app (goodIn_of _ (by decide +kernel)) ggX5_told_X5_endOf
set_option maxRecDepth 20000 in
theorem ggX5_leg_X5_isCall : GoodIn wsX5_leg wsX5_isCall := goodIn_r _ [8, 9, 10, 11, 7, 12, 13, 14, 15, 16, 17, 18, 19, 20, 21, 22, 23, 24, 25, 26, 27, 28, 29, 30, 31, 32, 33, 34, 35, 36, 37, 38, 39, 40, 41, 42, 43, 44, 45, 46, 47] (by decide +kernel) (by decide +kernel)
set_option maxRecDepth 20000 in
theorem gX5_leg_X5_isCall : GoodIn wsX5_leg (wsV RX5 157 RX5 yX5_isCall wsX5_isCall) := goodIn_app (goodIn_of _ (by decide +kernel)) ggX5_leg_X5_isCall
set_option maxRecDepth 20000 in
theorem ggX5_leg_X5_in : GoodIn wsX5_leg wsX5_in := goodIn_r _ [12] (by decide +kernel) (by decide +kernel)
set_option maxRecDepth 20000 in
theorem gX5_leg_X5_in : GoodIn wsX5_leg (va_wsS RX5 108 yX5_in wsX5_in) := goodIn_app (goodIn_of _ (by decide +kernel)) ggX5_leg_X5_in
set_option maxRecDepth 20000 in
theorem ggX5_hand_X5_isCall : GoodIn wsX5_hand wsX5_isCall := goodIn_r _ [9, 10, 11, 12, 8, 13, 18, 19, 20, 21, 22, 23, 24, 25, 26, 27, 28, 29, 30, 31, 32, 33, 34, 35, 36, 37, 38, 39, 40, 41, 42, 43, 44, 45, 46, 47, 48, 49, 50, 51, 52] (by decide +kernel) (by decide +kernel)
set_option maxRecDepth 20000 in
theorem gX5_hand_X5_isCall : GoodIn wsX5_hand (wsV RX5 157 RX5 yX5_isCall wsX5_isCall) := goodIn_app (goodIn_of _ (by decide +kernel)) ggX5_hand_X5_isCall
set_option maxRecDepth 20000 in
theorem ggX5_hand_X5_in : GoodIn wsX5_hand wsX5_in := goodIn_r _ [13] (by decide +kernel) (by decide +kernel)
set_option maxRecDepth 20000 in
theorem gX5_hand_X5_in : GoodIn wsX5_hand (va_wsS RX5 108 yX5_in wsX5_in) := goodIn_app (goodIn_of _ (by decide +kernel)) ggX5_hand_X5_in
set_option maxRecDepth 20000 in
theorem ggX5_hand_X5_endOf : GoodIn wsX5_hand wsX5_endOf := goodIn_r _ [17, 4, 3, 18, 19, 20, 21, 22, 23, 24, 25, 26, 27, 28, 29, 30, 31, 32, 33, 34, 35, 36, 37, 38, 39, 40, 41, 42, 43, 44, 45, 46, 47, 48, 49, 50, 51, 52] (by decide +kernel) (by decide +kernel)
set_option maxRecDepth 20000 in
theorem gX5_hand_X5_endOf : GoodIn wsX5_hand (wsV RX5 130 RX5 yX5_endOf wsX5_endOf) := goodIn_app (goodIn_of _ (by decide +kernel)) ggX5_hand_X5_endOf
set_option maxRecDepth 20000 in
theorem ggX5_fail_X5_isCall : GoodIn wsX5_fail wsX5_isCall := goodIn_r _ [17, 18, 19, 20, 16, 21, 73, 74, 75, 76, 77, 78, 79, 80, 81, 82, 83, 84, 85, 86, 87, 88, 89, 90, 91, 92, 93, 94, 95, 96, 97, 98, 99, 100, 101, 102, 103, 104, 105, 106, 107] (by decide +kernel) (by decide +kernel)
set_option maxRecDepth 20000 in
theorem gX5_fail_X5_isCall : GoodIn wsX5_fail (wsV RX5 157 RX5 yX5_isCall wsX5_isCall) := goodIn_app (goodIn_of _ (by decide +kernel)) ggX5_fail_X5_isCall
set_option maxRecDepth 20000 in
theorem ggX5_fail_X5_in : GoodIn wsX5_fail wsX5_in := goodIn_r _ [21] (by decide +kernel) (by decide +kernel)
set_option maxRecDepth 20000 in
theorem gX5_fail_X5_in : GoodIn wsX5_fail (va_wsS RX5 108 yX5_in wsX5_in) := goodIn_app (goodIn_of _ (by decide +kernel)) ggX5_fail_X5_in
set_option maxRecDepth 20000 in
theorem ggX5_fail_X5_findBest : GoodIn wsX5_fail wsX5_findBest := goodIn_r _ [25, 26, 27, 28, 29, 16, 30, 31, 32, 5, 33, 6, 34, 35, 36, 37, 38, 39, 40, 41, 42, 43, 44, 45, 46, 47, 48, 49, 50, 51, 9, 52, 53, 54, 55, 56, 57, 58, 59, 60, 61, 62, 63, 73, 74, 75, 76, 77, 78, 79, 80, 81, 82, 83, 84, 85, 86, 87, 88, 89, 90, 91, 92, 93, 94, 95, 96, 97, 98, 99, 100, 101, 102, 103, 104, 105, 106, 107] (by decide +kernel) (by decide +kernel)
set_option maxRecDepth 20000 in
theorem gX5_fail_X5_findBest : GoodIn wsX5_fail (wsV RX5 160 RX5 yX5_findBest wsX5_findBest) := goodIn_app (goodIn_of _ (by decide +kernel)) ggX5_fail_X5_findBest
