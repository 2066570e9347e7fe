set_option maxRecDepth 20000 in
theorem wsL_law_in0 : ∀ w ∈ wsL_law0, w ∈ lw_tbl := fun w h => (goodIn_p wsL_law0 [47, 50, 59, 563, 129, 679, 133, 137, 141, 145, 149, 152, 156, 683, 687, 690, 160, 163, 166, 170, 694, 220, 698, 224, 228, 232, 235, 239, 243, 247, 715, 719, 251, 255, 702, 706, 710, 491, 723, 675, 259, 262, 266, 271, 727, 731, 735, 275, 282, 279, 739, 286, 290, 743, 333, 337, 341, 345, 349, 353, 357, 361, 365, 373, 377, 381, 385, 389, 393, 369, 747, 751, 755, 759, 764, 397, 401, 406, 445, 449, 768, 772, 455, 776, 459, 780, 464, 784, 468, 471, 475, 479, 788, 483, 792] (by decide +kernel) (by decide +kernel) w h).1
theorem wsL_law_x0 : ∀ w ∈ (vx_atS RX4 88 "java/util/NoSuchElementException" ["java/lang/RuntimeException", "java/lang/Exception"]).filter goodWord, w ∈ lw_tbl := by decide +kernel
theorem wsL_law_in : ∀ w ∈ wsL_law, w ∈ lw_tbl := fun w h => (List.mem_append.mp h).elim (fun h => wsL_law_in0 w h) (fun h => wsL_law_x0 w h)
theorem inlX0 : ∀ w ∈ wsX00, w ∈ wsL_law := fun _ h => List.mem_append_left _ (List.mem_append_left _ (List.mem_append_left _ (List.mem_append_left _ (List.mem_append_left _ (List.mem_append_right _ h)))))
theorem inX0 : ∀ w ∈ wsX00, w ∈ lw_tbl := fun w h => wsL_law_in w (inlX0 w h)
theorem inlX1 : ∀ w ∈ wsX10, w ∈ wsL_law := fun _ h => List.mem_append_left _ (List.mem_append_left _ (List.mem_append_right _ h))
theorem inX1 : ∀ w ∈ wsX10, w ∈ lw_tbl := fun w h => wsL_law_in w (inlX1 w h)
theorem inlX2 : ∀ w ∈ wsX20, w ∈ wsL_law := fun _ h => List.mem_append_left _ (List.mem_append_left _ (List.mem_append_left _ (List.mem_append_right _ h)))
theorem inX2 : ∀ w ∈ wsX20, w ∈ lw_tbl := fun w h => wsL_law_in w (inlX2 w h)
theorem inlX3 : ∀ w ∈ wsX30, w ∈ wsL_law := fun _ h => List.mem_append_left _ (List.mem_append_left _ (List.mem_append_left _ (List.mem_append_left _ (List.mem_append_right _ h))))
theorem inX3 : ∀ w ∈ wsX30, w ∈ lw_tbl := fun w h => wsL_law_in w (inlX3 w h)
theorem inlX4 : ∀ w ∈ wsX40, w ∈ wsL_law := fun _ h => List.mem_append_left _ (List.mem_append_left _ (List.mem_append_left _ (List.mem_append_left _ (List.mem_append_left _ (List.mem_append_left _ (List.mem_append_left _ (List.mem_append_right _ h)))))))
theorem inX4 : ∀ w ∈ wsX40, w ∈ lw_tbl := fun w h => wsL_law_in w (inlX4 w h)
theorem inlX5 : ∀ w ∈ wsX50, w ∈ wsL_law := fun _ h => List.mem_append_left _ (List.mem_append_left _ (List.mem_append_left _ (List.mem_append_left _ (List.mem_append_left _ (List.mem_append_left _ (List.mem_append_right _ h))))))
theorem inX5 : ∀ w ∈ wsX50, w ∈ lw_tbl := fun w h => wsL_law_in w (inlX5 w h)
theorem inJx145de : ∀ w ∈ wsJx145de0, w ∈ lw_tbl := by decide +kernel
theorem inJ9 : ∀ w ∈ wsJ90, w ∈ lw_tbl := by decide +kernel
theorem inJ0 : ∀ w ∈ wsJ00, w ∈ lw_tbl := by decide +kernel
set_option maxRecDepth 20000 in
theorem ggX0_handsOn_X0_lastEnd : GoodIn wsX0_handsOn wsX0_lastEnd := goodIn_r _ [7, 1, 8, 9, 10, 11, 12, 13, 14, 15, 16] (by decide +kernel) (by decide +kernel)
set_option maxRecDepth 20000 in
theorem gX0_handsOn_X0_lastEnd : GoodIn wsX0_handsOn (wsV RX0 37 RX0 yX0_lastEnd wsX0_lastEnd) := goodIn_app (goodIn_of _ (by decide +kernel)) ggX0_handsOn_X0_lastEnd
set_option maxRecDepth 20000 in
theorem ggX2_lastEnd_X2_legAt : GoodIn wsX2_lastEnd wsX2_legAt := goodIn_r _ [7, 1, 8, 9, 10, 11, 12, 13, 14, 15, 16, 17] (by decide +kernel) (by decide +kernel)
set_option maxRecDepth 20000 in
theorem gX2_lastEnd_X2_legAt : GoodIn wsX2_lastEnd (wsV RX2 43 RX2 yX2_legAt wsX2_legAt) := goodIn_app (goodIn_of _ (by decide +kernel)) ggX2_lastEnd_X2_legAt
set_option maxRecDepth 20000 in
theorem ggX2_cameWarm_X2_lastEnd : GoodIn wsX2_cameWarm wsX2_lastEnd := goodIn_r _ [9, 10, 11, 12, 13, 14, 8, 15, 16, 17, 18, 19, 20, 21, 22, 23, 24, 25, 26, 27, 28, 29, 30, 31, 32, 33] (by decide +kernel) (by decide +kernel)
set_option maxRecDepth 20000 in
theorem gX2_cameWarm_X2_lastEnd : GoodIn wsX2_cameWarm (wsV RX2 50 RX2 yX2_lastEnd wsX2_lastEnd) := goodIn_app (goodIn_of _ (by decide +kernel)) ggX2_cameWarm_X2_lastEnd
set_option maxRecDepth 20000 in
theorem ggX3_carries_X4_hasBit : GoodIn wsX3_carries wsX4_hasBit := goodIn_r _ [5] (by decide +kernel) (by decide +kernel)
set_option maxRecDepth 20000 in
theorem gX3_carries_X4_hasBit_n47 : GoodIn wsX3_carries (wsX4_hasBit) := ggX3_carries_X4_hasBit
set_option maxRecDepth 20000 in
theorem ggX4_init_X0_init : GoodIn wsX4_init wsX0_init := goodIn_r _ [21, 22, 2, 3, 4, 23, 24, 25, 26, 27, 28, 29, 30, 41, 42, 43, 44, 45, 46, 47, 48] (by decide +kernel) (by decide +kernel)
set_option maxRecDepth 20000 in
theorem gX4_init_X0_init_n27 : GoodIn wsX4_init (wsX0_init) := ggX4_init_X0_init
set_option maxRecDepth 20000 in
theorem ggX4_road_X4_isPlace : GoodIn wsX4_road wsX4_isPlace := goodIn_r _ [7, 8, 33, 34, 35, 36, 37, 38, 39, 40, 41, 42] (by decide +kernel) (by decide +kernel)
set_option maxRecDepth 20000 in
theorem gX4_road_X4_isPlace : GoodIn wsX4_road (wsV RX4 51 RX4 yX4_isPlace wsX4_isPlace) := goodIn_app (goodIn_of _ (by decide +kernel)) ggX4_road_X4_isPlace
set_option maxRecDepth 20000 in
theorem ggX4_road_X4_riderAt : GoodIn wsX4_road wsX4_riderAt := goodIn_r _ [12, 2, 13, 33, 34, 35, 36, 37, 38, 39, 40, 41, 42] (by decide +kernel) (by decide +kernel)
set_option maxRecDepth 20000 in
theorem gX4_road_X4_riderAt : GoodIn wsX4_road (wsV RX4 55 RX4 yX4_riderAt wsX4_riderAt) := goodIn_app (goodIn_of _ (by decide +kernel)) ggX4_road_X4_riderAt
set_option maxRecDepth 20000 in
theorem ggX4_road_X4_settleWays : GoodIn wsX4_road wsX4_settleWays := goodIn_r _ [17, 18, 19, 20, 21, 22, 6, 23, 1, 3, 4, 5, 7, 8, 24, 25, 26, 27, 28, 29, 30, 31, 32, 43, 44, 45, 46, 47, 48, 49, 50, 51, 52, 53, 33, 34, 35, 36, 37, 38, 39, 40, 41, 42] (by decide +kernel) (by decide +kernel)
set_option maxRecDepth 20000 in
theorem gX4_road_X4_settleWays : GoodIn wsX4_road (wsV RX4 59 RX4 yX4_settleWays wsX4_settleWays) := goodIn_app (goodIn_of _ (by decide +kernel)) ggX4_road_X4_settleWays
set_option maxRecDepth 20000 in
theorem ggX4_rider_X4_isPlace : GoodIn wsX4_rider wsX4_isPlace := goodIn_r _ [11, 2, 54, 55, 56, 57, 58, 59, 60, 61, 62, 63] (by decide +kernel) (by decide +kernel)
set_option maxRecDepth 20000 in
theorem gX4_rider_X4_isPlace : GoodIn wsX4_rider (wsV RX4 51 RX4 yX4_isPlace wsX4_isPlace) := goodIn_app (goodIn_of _ (by decide +kernel)) ggX4_rider_X4_isPlace
set_option maxRecDepth 20000 in
theorem ggX4_rider_X4_areBits : GoodIn wsX4_rider wsX4_areBits := goodIn_r _ [14] (by decide +kernel) (by decide +kernel)
set_option maxRecDepth 20000 in
theorem gX4_rider_X4_areBits : GoodIn wsX4_rider (va_wsS RX4 63 yX4_areBits wsX4_areBits) := goodIn_app (goodIn_of _ (by decide +kernel)) ggX4_rider_X4_areBits
set_option maxRecDepth 20000 in
theorem ggX4_rider_X4_hasBit : GoodIn wsX4_rider wsX4_hasBit := goodIn_r _ [17] (by decide +kernel) (by decide +kernel)
set_option maxRecDepth 20000 in
theorem gX4_rider_X4_hasBit : GoodIn wsX4_rider (va_wsS RX4 67 yX4_hasBit wsX4_hasBit) := goodIn_app (goodIn_of _ (by decide +kernel)) ggX4_rider_X4_hasBit
set_option maxRecDepth 20000 in
theorem ggX4_rider_X4_isMinute : GoodIn wsX4_rider wsX4_isMinute := goodIn_r _ [20] (by decide +kernel) (by decide +kernel)
set_option maxRecDepth 20000 in
theorem gX4_rider_X4_isMinute : GoodIn wsX4_rider (va_wsS RX4 70 yX4_isMinute wsX4_isMinute) := goodIn_app (goodIn_of _ (by decide +kernel)) ggX4_rider_X4_isMinute
set_option maxRecDepth 20000 in
theorem ggX4_rider_X3_init : GoodIn wsX4_rider wsX3_init := goodIn_r _ [23, 24, 25, 26, 27, 28, 29, 30, 31, 32, 33, 34, 35, 36, 37, 38, 64, 65, 66, 67, 68, 69, 70, 71, 72, 73, 74] (by decide +kernel) (by decide +kernel)
set_option maxRecDepth 20000 in
theorem gX4_rider_X3_init : GoodIn wsX4_rider (wsX3_init) := ggX4_rider_X3_init
set_option maxRecDepth 20000 in
theorem ggX4_rider_X4_settleWays : GoodIn wsX4_rider wsX4_settleWays := goodIn_r _ [42, 43, 44, 45, 46, 47, 10, 48, 49, 7, 8, 9, 11, 2, 15, 16, 17, 50, 51, 52, 5, 53, 28, 64, 65, 66, 67, 68, 69, 70, 71, 72, 73, 74, 54, 55, 56, 57, 58, 59, 60, 61, 62, 63] (by decide +kernel) (by decide +kernel)
set_option maxRecDepth 20000 in
theorem gX4_rider_X4_settleWays : GoodIn wsX4_rider (wsV RX4 59 RX4 yX4_settleWays wsX4_settleWays) := goodIn_app (goodIn_of _ (by decide +kernel)) ggX4_rider_X4_settleWays
set_option maxRecDepth 20000 in
theorem ggX4_count_X4_countRequests : GoodIn wsX4_count wsX4_countRequests := goodIn_r _ [8, 3, 9, 10, 11, 7, 12, 13, 14, 15, 16, 17, 18, 19, 20, 21, 22, 23, 24, 25, 26, 27, 28, 29, 30, 31, 32, 33, 34, 35, 36, 37, 38, 39, 40, 41, 42, 43, 44, 45, 46, 47, 48, 49, 50, 51, 52, 53, 54, 55, 56, 57, 58, 59, 60, 61, 62, 63, 64, 65] (by decide +kernel) (by decide +kernel)
set_option maxRecDepth 20000 in
theorem gX4_count_X4_countRequests : GoodIn wsX4_count (wsV RX4 76 RX4 yX4_countRequests wsX4_countRequests) := goodIn_app (goodIn_of _ (by decide +kernel)) ggX4_count_X4_countRequests
set_option maxRecDepth 20000 in
theorem ggX4_way_X4_riderAt : GoodIn wsX4_way wsX4_riderAt := goodIn_r _ [5, 6, 7, 18, 19, 20, 21, 22, 23, 24, 25, 26, 27] (by decide +kernel) (by decide +kernel)
set_option maxRecDepth 20000 in
theorem gX4_way_X4_riderAt : GoodIn wsX4_way (wsV RX4 55 RX4 yX4_riderAt wsX4_riderAt) := goodIn_app (goodIn_of _ (by decide +kernel)) ggX4_way_X4_riderAt
