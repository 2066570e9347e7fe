set_option maxRecDepth 20000 in
theorem ggX4_rideChosen_X1_init : GoodIn wsX4_rideChosen wsX1_init := goodIn_r _ [25, 26, 27, 28, 29, 30, 31, 32, 33, 34, 35, 36, 74, 75, 76, 77, 78, 79, 80, 81] (by decide +kernel) (by decide +kernel)
set_option maxRecDepth 20000 in
theorem gX4_rideChosen_X1_init : GoodIn wsX4_rideChosen (wsX1_init) := ggX4_rideChosen_X1_init
set_option maxRecDepth 20000 in
theorem ggX4_rideChosen_X2_addLeg : GoodIn wsX4_rideChosen wsX2_addLeg := goodIn_r _ [41, 42, 43, 93, 94, 95, 96, 97, 98, 99, 100, 101] (by decide +kernel) (by decide +kernel)
set_option maxRecDepth 20000 in
theorem gX4_rideChosen_X2_addLeg : GoodIn wsX4_rideChosen (wsV RX4 298 RX2 yX2_addLeg wsX2_addLeg) := goodIn_app (goodIn_of _ (by decide +kernel)) ggX4_rideChosen_X2_addLeg
set_option maxRecDepth 20000 in
theorem ggX4_rideChosen_X0_handsOn : GoodIn wsX4_rideChosen wsX0_handsOn := goodIn_r _ [48, 49, 50, 51, 52, 53, 47, 54, 55, 66, 67, 68, 69, 70, 71, 72, 73] (by decide +kernel) (by decide +kernel)
set_option maxRecDepth 20000 in
theorem gX4_rideChosen_X0_handsOn : GoodIn wsX4_rideChosen (wsV RX4 302 RX0 yX0_handsOn wsX0_handsOn) := goodIn_app (goodIn_of _ (by decide +kernel)) ggX4_rideChosen_X0_handsOn
set_option maxRecDepth 20000 in
theorem ggX4_mayFail_X2_legAt : GoodIn wsX4_mayFail wsX2_legAt := goodIn_r _ [9, 10, 11, 20, 21, 22, 23, 24, 25, 26, 27, 28] (by decide +kernel) (by decide +kernel)
set_option maxRecDepth 20000 in
theorem gX4_mayFail_X2_legAt : GoodIn wsX4_mayFail (wsV RX4 178 RX2 yX2_legAt wsX2_legAt) := goodIn_app (goodIn_of _ (by decide +kernel)) ggX4_mayFail_X2_legAt
set_option maxRecDepth 20000 in
theorem ggX4_dropLegsBehind_X2_legAt : GoodIn wsX4_dropLegsBehind wsX2_legAt := goodIn_r _ [15, 16, 17, 25, 26, 27, 28, 29, 30, 31, 32, 33] (by decide +kernel) (by decide +kernel)
set_option maxRecDepth 20000 in
theorem gX4_dropLegsBehind_X2_legAt : GoodIn wsX4_dropLegsBehind (wsV RX4 178 RX2 yX2_legAt wsX2_legAt) := goodIn_app (goodIn_of _ (by decide +kernel)) ggX4_dropLegsBehind_X2_legAt
set_option maxRecDepth 20000 in
theorem ggX4_dropLegsBehind_X4_riderAt : GoodIn wsX4_dropLegsBehind wsX4_riderAt := goodIn_r _ [22, 23, 24, 53, 54, 55, 56, 57, 58, 59, 60, 61, 62] (by decide +kernel) (by decide +kernel)
set_option maxRecDepth 20000 in
theorem gX4_dropLegsBehind_X4_riderAt : GoodIn wsX4_dropLegsBehind (wsV RX4 55 RX4 yX4_riderAt wsX4_riderAt) := goodIn_app (goodIn_of _ (by decide +kernel)) ggX4_dropLegsBehind_X4_riderAt
set_option maxRecDepth 20000 in
theorem ggX4_failLeg_X4_riderAt : GoodIn wsX4_failLeg wsX4_riderAt := goodIn_r _ [13, 14, 15, 35, 36, 37, 38, 39, 40, 41, 42, 43, 44] (by decide +kernel) (by decide +kernel)
set_option maxRecDepth 20000 in
theorem gX4_failLeg_X4_riderAt : GoodIn wsX4_failLeg (wsV RX4 55 RX4 yX4_riderAt wsX4_riderAt) := goodIn_app (goodIn_of _ (by decide +kernel)) ggX4_failLeg_X4_riderAt
set_option maxRecDepth 20000 in
theorem ggX5_isPlace_X5_in : GoodIn wsX5_isPlace wsX5_in := goodIn_r _ [5] (by decide +kernel) (by decide +kernel)
set_option maxRecDepth 20000 in
theorem gX5_isPlace_X5_in : GoodIn wsX5_isPlace (va_wsS RX5 108 yX5_in wsX5_in) := goodIn_app (goodIn_of _ (by decide +kernel)) ggX5_isPlace_X5_in
set_option maxRecDepth 20000 in
theorem ggX5_isRider_X5_in : GoodIn wsX5_isRider wsX5_in := goodIn_r _ [5] (by decide +kernel) (by decide +kernel)
set_option maxRecDepth 20000 in
theorem gX5_isRider_X5_in : GoodIn wsX5_isRider (va_wsS RX5 108 yX5_in wsX5_in) := goodIn_app (goodIn_of _ (by decide +kernel)) ggX5_isRider_X5_in
set_option maxRecDepth 20000 in
theorem ggX5_isCall_X5_in : GoodIn wsX5_isCall wsX5_in := goodIn_r _ [5] (by decide +kernel) (by decide +kernel)
set_option maxRecDepth 20000 in
theorem gX5_isCall_X5_in : GoodIn wsX5_isCall (va_wsS RX5 108 yX5_in wsX5_in) := goodIn_app (goodIn_of _ (by decide +kernel)) ggX5_isCall_X5_in
set_option maxRecDepth 20000 in
theorem ggX5_road_X5_isPlace : GoodIn wsX5_road wsX5_isPlace := goodIn_r _ [7, 8, 9, 10, 6, 11, 12, 13, 14, 15, 16, 17, 18, 19, 20, 21, 22, 23, 24, 25, 26, 27, 28, 29, 30, 31, 32, 33, 34, 35, 36, 37, 38, 39, 40, 41, 42, 43, 44, 45, 46] (by decide +kernel) (by decide +kernel)
set_option maxRecDepth 20000 in
theorem gX5_road_X5_isPlace : GoodIn wsX5_road (wsV RX5 118 RX5 yX5_isPlace wsX5_isPlace) := goodIn_app (goodIn_of _ (by decide +kernel)) ggX5_road_X5_isPlace
set_option maxRecDepth 20000 in
theorem ggX5_road_X5_in : GoodIn wsX5_road wsX5_in := goodIn_r _ [11] (by decide +kernel) (by decide +kernel)
set_option maxRecDepth 20000 in
theorem gX5_road_X5_in : GoodIn wsX5_road (va_wsS RX5 108 yX5_in wsX5_in) := goodIn_app (goodIn_of _ (by decide +kernel)) ggX5_road_X5_in
set_option maxRecDepth 20000 in
theorem ggX5_rider_X5_isPlace : GoodIn wsX5_rider wsX5_isPlace := goodIn_r _ [15, 2, 16, 17, 14, 18, 19, 20, 21, 22, 23, 24, 25, 26, 27, 28, 29, 30, 31, 32, 33, 34, 35, 36, 37, 38, 39, 40, 41, 42, 43, 44, 45, 46, 47, 48, 49, 50, 51, 52, 53] (by decide +kernel) (by decide +kernel)
set_option maxRecDepth 20000 in
theorem gX5_rider_X5_isPlace : GoodIn wsX5_rider (wsV RX5 118 RX5 yX5_isPlace wsX5_isPlace) := goodIn_app (goodIn_of _ (by decide +kernel)) ggX5_rider_X5_isPlace
set_option maxRecDepth 20000 in
theorem ggX5_rider_X5_in : GoodIn wsX5_rider wsX5_in := goodIn_r _ [18] (by decide +kernel) (by decide +kernel)
set_option maxRecDepth 20000 in
theorem gX5_rider_X5_in : GoodIn wsX5_rider (va_wsS RX5 108 yX5_in wsX5_in) := goodIn_app (goodIn_of _ (by decide +kernel)) ggX5_rider_X5_in
set_option maxRecDepth 20000 in
theorem ggX5_rest_X5_in : GoodIn wsX5_rest wsX5_in := goodIn_r _ [6] (by decide +kernel) (by decide +kernel)
set_option maxRecDepth 20000 in
theorem gX5_rest_X5_in : GoodIn wsX5_rest (va_wsS RX5 108 yX5_in wsX5_in) := goodIn_app (goodIn_of _ (by decide +kernel)) ggX5_rest_X5_in
set_option maxRecDepth 20000 in
theorem ggX5_way_X5_isRider : GoodIn wsX5_way wsX5_isRider := goodIn_r _ [7, 8, 9, 10, 6, 11, 24, 25, 26, 27, 28, 29, 30, 31, 32, 33, 34, 35, 36, 37, 38, 39, 40, 41, 42, 43, 44, 45, 46, 47, 48, 49, 50, 51, 52, 53, 54, 55, 56, 57, 58] (by decide +kernel) (by decide +kernel)
set_option maxRecDepth 20000 in
theorem gX5_way_X5_isRider : GoodIn wsX5_way (wsV RX5 123 RX5 yX5_isRider wsX5_isRider) := goodIn_app (goodIn_of _ (by decide +kernel)) ggX5_way_X5_isRider
set_option maxRecDepth 20000 in
theorem ggX5_way_X5_isPlace : GoodIn wsX5_way wsX5_isPlace := goodIn_r _ [15, 16, 9, 10, 6, 11, 24, 25, 26, 27, 28, 29, 30, 31, 32, 33, 34, 35, 36, 37, 38, 39, 40, 41, 42, 43, 44, 45, 46, 47, 48, 49, 50, 51, 52, 53, 54, 55, 56, 57, 58] (by decide +kernel) (by decide +kernel)
set_option maxRecDepth 20000 in
theorem gX5_way_X5_isPlace : GoodIn wsX5_way (wsV RX5 118 RX5 yX5_isPlace wsX5_isPlace) := goodIn_app (goodIn_of _ (by decide +kernel)) ggX5_way_X5_isPlace
set_option maxRecDepth 20000 in
theorem ggX5_way_X5_wayOf : GoodIn wsX5_way wsX5_wayOf := goodIn_r _ [20, 21, 2, 22, 16, 23, 24, 25, 26, 27, 28, 29, 30, 31, 32, 33, 34, 35, 36, 37, 38, 39, 40, 41, 42, 43, 44, 45, 46, 47, 48, 49, 50, 51, 52, 53, 54, 55, 56, 57, 58] (by decide +kernel) (by decide +kernel)
set_option maxRecDepth 20000 in
theorem gX5_way_X5_wayOf : GoodIn wsX5_way (wsV RX5 126 RX5 yX5_wayOf wsX5_wayOf) := goodIn_app (goodIn_of _ (by decide +kernel)) ggX5_way_X5_wayOf
set_option maxRecDepth 20000 in
theorem ggX5_count_X5_endOf : GoodIn wsX5_count wsX5_endOf := goodIn_r _ [12, 13, 14, 15, 16, 17, 18, 19, 20, 21, 22, 23, 24, 25, 26, 27, 28, 29, 30, 31, 32, 33, 34, 35, 36, 37, 38, 39, 40, 41, 42, 43, 44, 45, 46, 47, 48, 49] (by decide +kernel) (by decide +kernel)
set_option maxRecDepth 20000 in
theorem gX5_count_X5_endOf : GoodIn wsX5_count (wsV RX5 130 RX5 yX5_endOf wsX5_endOf) := goodIn_app (goodIn_of _ (by decide +kernel)) ggX5_count_X5_endOf
set_option maxRecDepth 20000 in
theorem ggX5_of_X5_isRider : GoodIn wsX5_of wsX5_isRider := goodIn_r _ [14, 15, 16, 17, 13, 18, 19, 20, 21, 22, 23, 24, 25, 26, 27, 28, 29, 30, 31, 32, 33, 34, 35, 36, 37, 38, 39, 40, 41, 42, 43, 44, 45, 46, 47, 48, 49, 50, 51, 52, 53] (by decide +kernel) (by decide +kernel)
set_option maxRecDepth 20000 in
theorem gX5_of_X5_isRider : GoodIn wsX5_of (wsV RX5 123 RX5 yX5_isRider wsX5_isRider) := goodIn_app (goodIn_of _ (by decide +kernel)) ggX5_of_X5_isRider
set_option maxRecDepth 20000 in
theorem ggX5_of_X5_in : GoodIn wsX5_of wsX5_in := goodIn_r _ [18] (by decide +kernel) (by decide +kernel)
set_option maxRecDepth 20000 in
theorem gX5_of_X5_in : GoodIn wsX5_of (va_wsS RX5 108 yX5_in wsX5_in) := goodIn_app (goodIn_of _ (by decide +kernel)) ggX5_of_X5_in
set_option maxRecDepth 20000 in
theorem ggX5_onDuty_X5_mayCarry : GoodIn wsX5_onDuty wsX5_mayCarry := goodIn_r _ [8, 9, 10, 14, 15, 16, 17, 18, 19, 20, 21, 22, 23, 24, 25, 26, 27, 28, 29, 30, 31, 32, 33, 34, 35, 36, 37, 38, 39, 40, 41, 42, 43, 44, 45, 46, 47, 48] (by decide +kernel) (by decide +kernel)
set_option maxRecDepth 20000 in
theorem gX5_onDuty_X5_mayCarry : GoodIn wsX5_onDuty (wsV RX5 134 RX5 yX5_mayCarry wsX5_mayCarry) := goodIn_app (goodIn_of _ (by decide +kernel)) ggX5_onDuty_X5_mayCarry
set_option maxRecDepth 20000 in
theorem ggX5_onDuty_X5_in : GoodIn wsX5_onDuty wsX5_in := goodIn_r _ [13] (by decide +kernel) (by decide +kernel)
set_option maxRecDepth 20000 in
theorem gX5_onDuty_X5_in : GoodIn wsX5_onDuty (va_wsS RX5 108 yX5_in wsX5_in) := goodIn_app (goodIn_of _ (by decide +kernel)) ggX5_onDuty_X5_in
set_option maxRecDepth 20000 in
theorem ggX5_duty_X5_in : GoodIn wsX5_duty wsX5_in := goodIn_r _ [5] (by decide +kernel) (by decide +kernel)
set_option maxRecDepth 20000 in
theorem gX5_duty_X5_in : GoodIn wsX5_duty (va_wsS RX5 108 yX5_in wsX5_in) := goodIn_app (goodIn_of _ (by decide +kernel)) ggX5_duty_X5_in
set_option maxRecDepth 20000 in
theorem ggX5_duty_X5_onDuty : GoodIn wsX5_duty wsX5_onDuty := goodIn_r _ [9, 10, 11, 12, 13, 14, 15, 4, 16, 17, 18, 2, 3, 5, 19, 20, 21, 22, 23, 24, 25, 26, 27, 28, 29, 30, 31, 32, 33, 34, 35, 36, 37, 38, 39, 40, 41, 42, 43, 44, 45, 46, 47, 48, 49, 50, 51, 52, 53] (by decide +kernel) (by decide +kernel)
set_option maxRecDepth 20000 in
theorem gX5_duty_X5_onDuty : GoodIn wsX5_duty (wsV RX5 138 RX5 yX5_onDuty wsX5_onDuty) := goodIn_app (goodIn_of _ (by decide +kernel)) ggX5_duty_X5_onDuty
