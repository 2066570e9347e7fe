theorem u_ml_X5_160 : Cond.methodLink RX5 160 yX5_findBest ∈ UW := UW_in (i := 752) (by decide +kernel) (by decide +kernel)
theorem u_in_X5_findBest : Cond.instanceMethod yX5_findBest ∈ UW := UW_in (i := 754) (by decide +kernel) (by decide +kernel)
theorem u_co_X5_findBest : Cond.code yX5_findBest cX5_findBest 5 (some .boolean) ∈ UW := UW_in (i := 755) (by decide +kernel) (by decide +kernel)
theorem u_ml_X5_150 : Cond.methodLink RX5 150 yX5_tryLeg ∈ UW := UW_in (i := 756) (by decide +kernel) (by decide +kernel)
theorem u_in_X5_tryLeg : Cond.instanceMethod yX5_tryLeg ∈ UW := UW_in (i := 758) (by decide +kernel) (by decide +kernel)
theorem u_co_X5_tryLeg : Cond.code yX5_tryLeg cX5_tryLeg 14 none ∈ UW := UW_in (i := 759) (by decide +kernel) (by decide +kernel)
theorem u_ml_X5_145 : Cond.methodLink RX5 145 Lib.Math.max.name ∈ UW := UW_in (i := 760) (by decide +kernel) (by decide +kernel)
theorem u_ml_X5_154 : Cond.methodLink RX5 154 yX5_isBetter ∈ UW := UW_in (i := 761) (by decide +kernel) (by decide +kernel)
theorem u_in_X5_isBetter : Cond.instanceMethod yX5_isBetter ∈ UW := UW_in (i := 763) (by decide +kernel) (by decide +kernel)
theorem u_co_X5_isBetter : Cond.code yX5_isBetter cX5_isBetter 5 (some .boolean) ∈ UW := UW_in (i := 764) (by decide +kernel) (by decide +kernel)
theorem u_ml_L_76 : Cond.methodLink RL 76 yX5_send ∈ UW := UW_in (i := 765) (by decide +kernel) (by decide +kernel)
theorem u_in_X5_send : Cond.instanceMethod yX5_send ∈ UW := UW_in (i := 766) (by decide +kernel) (by decide +kernel)
theorem u_se_X5_send : Cond.selects RX5 yX5_send yX5_send ∈ UW := UW_in (i := 767) (by decide +kernel) (by decide +kernel)
theorem u_co_X5_send : Cond.code yX5_send cX5_send 2 (some .int) ∈ UW := UW_in (i := 768) (by decide +kernel) (by decide +kernel)
theorem u_ml_X5_164 : Cond.methodLink RX5 164 yX5_ride ∈ UW := UW_in (i := 769) (by decide +kernel) (by decide +kernel)
theorem u_in_X5_ride : Cond.instanceMethod yX5_ride ∈ UW := UW_in (i := 771) (by decide +kernel) (by decide +kernel)
theorem u_co_X5_ride : Cond.code yX5_ride cX5_ride 7 none ∈ UW := UW_in (i := 772) (by decide +kernel) (by decide +kernel)
theorem u_ml_L_80 : Cond.methodLink RL 80 yX5_told ∈ UW := UW_in (i := 773) (by decide +kernel) (by decide +kernel)
theorem u_in_X5_told : Cond.instanceMethod yX5_told ∈ UW := UW_in (i := 774) (by decide +kernel) (by decide +kernel)
theorem u_se_X5_told : Cond.selects RX5 yX5_told yX5_told ∈ UW := UW_in (i := 775) (by decide +kernel) (by decide +kernel)
theorem u_co_X5_told : Cond.code yX5_told cX5_told 3 (some .int) ∈ UW := UW_in (i := 776) (by decide +kernel) (by decide +kernel)
theorem u_ml_L_84 : Cond.methodLink RL 84 yX5_leg ∈ UW := UW_in (i := 777) (by decide +kernel) (by decide +kernel)
theorem u_in_X5_leg : Cond.instanceMethod yX5_leg ∈ UW := UW_in (i := 778) (by decide +kernel) (by decide +kernel)
theorem u_se_X5_leg : Cond.selects RX5 yX5_leg yX5_leg ∈ UW := UW_in (i := 779) (by decide +kernel) (by decide +kernel)
theorem u_co_X5_leg : Cond.code yX5_leg cX5_leg 4 (some .int) ∈ UW := UW_in (i := 780) (by decide +kernel) (by decide +kernel)
theorem u_ml_L_88 : Cond.methodLink RL 88 yX5_hand ∈ UW := UW_in (i := 781) (by decide +kernel) (by decide +kernel)
theorem u_in_X5_hand : Cond.instanceMethod yX5_hand ∈ UW := UW_in (i := 782) (by decide +kernel) (by decide +kernel)
theorem u_se_X5_hand : Cond.selects RX5 yX5_hand yX5_hand ∈ UW := UW_in (i := 783) (by decide +kernel) (by decide +kernel)
theorem u_co_X5_hand : Cond.code yX5_hand cX5_hand 5 (some .int) ∈ UW := UW_in (i := 784) (by decide +kernel) (by decide +kernel)
theorem u_ml_L_92 : Cond.methodLink RL 92 yX5_fail ∈ UW := UW_in (i := 785) (by decide +kernel) (by decide +kernel)
theorem u_in_X5_fail : Cond.instanceMethod yX5_fail ∈ UW := UW_in (i := 786) (by decide +kernel) (by decide +kernel)
theorem u_se_X5_fail : Cond.selects RX5 yX5_fail yX5_fail ∈ UW := UW_in (i := 787) (by decide +kernel) (by decide +kernel)
theorem u_co_X5_fail : Cond.code yX5_fail cX5_fail 8 (some .int) ∈ UW := UW_in (i := 788) (by decide +kernel) (by decide +kernel)
theorem u_ml_L_96 : Cond.methodLink RL 96 yX5_next ∈ UW := UW_in (i := 789) (by decide +kernel) (by decide +kernel)
theorem u_in_X5_next : Cond.instanceMethod yX5_next ∈ UW := UW_in (i := 790) (by decide +kernel) (by decide +kernel)
theorem u_se_X5_next : Cond.selects RX5 yX5_next yX5_next ∈ UW := UW_in (i := 791) (by decide +kernel) (by decide +kernel)
theorem u_co_X5_next : Cond.code yX5_next cX5_next 8 (some .int) ∈ UW := UW_in (i := 792) (by decide +kernel) (by decide +kernel)
theorem u_ar_long : Cond.arrayClass .long ∈ UW := UW_in (i := 793) (by decide +kernel) (by decide +kernel)
theorem u_la_X0_0 : u_lay RX0 TX0 0 ∈ UW := UW_in (i := 77) (by decide +kernel) (by decide +kernel)
theorem u_la_X0_1 : u_lay RX0 TX0 1 ∈ UW := UW_in (i := 79) (by decide +kernel) (by decide +kernel)
theorem u_la_X0_2 : u_lay RX0 TX0 2 ∈ UW := UW_in (i := 81) (by decide +kernel) (by decide +kernel)
theorem u_la_X0_3 : u_lay RX0 TX0 3 ∈ UW := UW_in (i := 83) (by decide +kernel) (by decide +kernel)
theorem u_la_X0_4 : u_lay RX0 TX0 4 ∈ UW := UW_in (i := 85) (by decide +kernel) (by decide +kernel)
theorem u_la_X0_5 : u_lay RX0 TX0 5 ∈ UW := UW_in (i := 87) (by decide +kernel) (by decide +kernel)
theorem u_la_X0_6 : u_lay RX0 TX0 6 ∈ UW := UW_in (i := 89) (by decide +kernel) (by decide +kernel)
theorem u_la_X0_7 : u_lay RX0 TX0 7 ∈ UW := UW_in (i := 91) (by decide +kernel) (by decide +kernel)
theorem u_hin0 : ∀ w ∈ u_ws RX0 TX0 8, w ∈ UW := by
  intro w hw
  obtain ⟨j, hj, rfl⟩ := List.mem_map.mp hw
  have hj := List.mem_range.mp hj
  match j, hj with
  | 0, _ => exact u_la_X0_0
  | 1, _ => exact u_la_X0_1
  | 2, _ => exact u_la_X0_2
  | 3, _ => exact u_la_X0_3
  | 4, _ => exact u_la_X0_4
  | 5, _ => exact u_la_X0_5
  | 6, _ => exact u_la_X0_6
  | 7, _ => exact u_la_X0_7
  | j + 8, hj => exact absurd hj (by omega)
theorem u_la_X1_0 : u_lay RX1 TX1 0 ∈ UW := UW_in (i := 425) (by decide +kernel) (by decide +kernel)
theorem u_la_X1_1 : u_lay RX1 TX1 1 ∈ UW := UW_in (i := 427) (by decide +kernel) (by decide +kernel)
theorem u_la_X1_2 : u_lay RX1 TX1 2 ∈ UW := UW_in (i := 429) (by decide +kernel) (by decide +kernel)
theorem u_la_X1_3 : u_lay RX1 TX1 3 ∈ UW := UW_in (i := 431) (by decide +kernel) (by decide +kernel)
theorem u_la_X1_4 : u_lay RX1 TX1 4 ∈ UW := UW_in (i := 433) (by decide +kernel) (by decide +kernel)
theorem u_la_X1_5 : u_lay RX1 TX1 5 ∈ UW := UW_in (i := 435) (by decide +kernel) (by decide +kernel)
theorem u_la_X1_6 : u_lay RX1 TX1 6 ∈ UW := UW_in (i := 437) (by decide +kernel) (by decide +kernel)
theorem u_la_X1_7 : u_lay RX1 TX1 7 ∈ UW := UW_in (i := 439) (by decide +kernel) (by decide +kernel)
theorem u_hin1 : ∀ w ∈ u_ws RX1 TX1 8, w ∈ UW := by
  intro w hw
  obtain ⟨j, hj, rfl⟩ := List.mem_map.mp hw
  have hj := List.mem_range.mp hj
  match j, hj with
  | 0, _ => exact u_la_X1_0
  | 1, _ => exact u_la_X1_1
  | 2, _ => exact u_la_X1_2
  | 3, _ => exact u_la_X1_3
  | 4, _ => exact u_la_X1_4
  | 5, _ => exact u_la_X1_5
  | 6, _ => exact u_la_X1_6
  | 7, _ => exact u_la_X1_7
  | j + 8, hj => exact absurd hj (by omega)
theorem u_la_X2_0 : u_lay RX2 TX2 0 ∈ UW := UW_in (i := 311) (by decide +kernel) (by decide +kernel)
theorem u_la_X2_1 : u_lay RX2 TX2 1 ∈ UW := UW_in (i := 313) (by decide +kernel) (by decide +kernel)
theorem u_la_X2_2 : u_lay RX2 TX2 2 ∈ UW := UW_in (i := 315) (by decide +kernel) (by decide +kernel)
theorem u_la_X2_3 : u_lay RX2 TX2 3 ∈ UW := UW_in (i := 317) (by decide +kernel) (by decide +kernel)
theorem u_la_X2_4 : u_lay RX2 TX2 4 ∈ UW := UW_in (i := 319) (by decide +kernel) (by decide +kernel)
theorem u_la_X2_5 : u_lay RX2 TX2 5 ∈ UW := UW_in (i := 321) (by decide +kernel) (by decide +kernel)
theorem u_la_X2_6 : u_lay RX2 TX2 6 ∈ UW := UW_in (i := 323) (by decide +kernel) (by decide +kernel)
theorem u_la_X2_7 : u_lay RX2 TX2 7 ∈ UW := UW_in (i := 325) (by decide +kernel) (by decide +kernel)
theorem u_la_X2_8 : u_lay RX2 TX2 8 ∈ UW := UW_in (i := 327) (by decide +kernel) (by decide +kernel)
theorem u_hin2 : ∀ w ∈ u_ws RX2 TX2 9, w ∈ UW := by
  intro w hw
  obtain ⟨j, hj, rfl⟩ := List.mem_map.mp hw
  have hj := List.mem_range.mp hj
  match j, hj with
  | 0, _ => exact u_la_X2_0
  | 1, _ => exact u_la_X2_1
  | 2, _ => exact u_la_X2_2
  | 3, _ => exact u_la_X2_3
  | 4, _ => exact u_la_X2_4
  | 5, _ => exact u_la_X2_5
  | 6, _ => exact u_la_X2_6
  | 7, _ => exact u_la_X2_7
  | 8, _ => exact u_la_X2_8
  | j + 9, hj => exact absurd hj (by omega)
theorem u_la_X3_0 : u_lay RX3 TX3 0 ∈ UW := UW_in (i := 194) (by decide +kernel) (by decide +kernel)
theorem u_la_X3_1 : u_lay RX3 TX3 1 ∈ UW := UW_in (i := 196) (by decide +kernel) (by decide +kernel)
theorem u_la_X3_2 : u_lay RX3 TX3 2 ∈ UW := UW_in (i := 198) (by decide +kernel) (by decide +kernel)
theorem u_la_X3_3 : u_lay RX3 TX3 3 ∈ UW := UW_in (i := 200) (by decide +kernel) (by decide +kernel)
theorem u_la_X3_4 : u_lay RX3 TX3 4 ∈ UW := UW_in (i := 202) (by decide +kernel) (by decide +kernel)
theorem u_la_X3_5 : u_lay RX3 TX3 5 ∈ UW := UW_in (i := 204) (by decide +kernel) (by decide +kernel)
theorem u_la_X3_6 : u_lay RX3 TX3 6 ∈ UW := UW_in (i := 206) (by decide +kernel) (by decide +kernel)
theorem u_la_X3_7 : u_lay RX3 TX3 7 ∈ UW := UW_in (i := 208) (by decide +kernel) (by decide +kernel)
theorem u_la_X3_8 : u_lay RX3 TX3 8 ∈ UW := UW_in (i := 210) (by decide +kernel) (by decide +kernel)
theorem u_la_X3_9 : u_lay RX3 TX3 9 ∈ UW := UW_in (i := 212) (by decide +kernel) (by decide +kernel)
theorem u_la_X3_10 : u_lay RX3 TX3 10 ∈ UW := UW_in (i := 214) (by decide +kernel) (by decide +kernel)
theorem u_hin3 : ∀ w ∈ u_ws RX3 TX3 11, w ∈ UW := by
  intro w hw
  obtain ⟨j, hj, rfl⟩ := List.mem_map.mp hw
  have hj := List.mem_range.mp hj
  match j, hj with
  | 0, _ => exact u_la_X3_0
  | 1, _ => exact u_la_X3_1
  | 2, _ => exact u_la_X3_2
  | 3, _ => exact u_la_X3_3
  | 4, _ => exact u_la_X3_4
  | 5, _ => exact u_la_X3_5
  | 6, _ => exact u_la_X3_6
  | 7, _ => exact u_la_X3_7
  | 8, _ => exact u_la_X3_8
  | 9, _ => exact u_la_X3_9
  | 10, _ => exact u_la_X3_10
  | j + 11, hj => exact absurd hj (by omega)
theorem u_la_X4_0 : u_lay RX4 TX4 0 ∈ UW := UW_in (i := 105) (by decide +kernel) (by decide +kernel)
theorem u_la_X4_1 : u_lay RX4 TX4 1 ∈ UW := UW_in (i := 107) (by decide +kernel) (by decide +kernel)
theorem u_la_X4_2 : u_lay RX4 TX4 2 ∈ UW := UW_in (i := 109) (by decide +kernel) (by decide +kernel)
theorem u_la_X4_3 : u_lay RX4 TX4 3 ∈ UW := UW_in (i := 111) (by decide +kernel) (by decide +kernel)
theorem u_la_X4_4 : u_lay RX4 TX4 4 ∈ UW := UW_in (i := 113) (by decide +kernel) (by decide +kernel)
theorem u_la_X4_5 : u_lay RX4 TX4 5 ∈ UW := UW_in (i := 115) (by decide +kernel) (by decide +kernel)
theorem u_la_X4_6 : u_lay RX4 TX4 6 ∈ UW := UW_in (i := 117) (by decide +kernel) (by decide +kernel)
theorem u_la_X4_7 : u_lay RX4 TX4 7 ∈ UW := UW_in (i := 119) (by decide +kernel) (by decide +kernel)
theorem u_la_X4_8 : u_lay RX4 TX4 8 ∈ UW := UW_in (i := 121) (by decide +kernel) (by decide +kernel)
theorem u_la_X4_9 : u_lay RX4 TX4 9 ∈ UW := UW_in (i := 123) (by decide +kernel) (by decide +kernel)
theorem u_hin4 : ∀ w ∈ u_ws RX4 TX4 10, w ∈ UW := by
  intro w hw
  obtain ⟨j, hj, rfl⟩ := List.mem_map.mp hw
  have hj := List.mem_range.mp hj
  match j, hj with
  | 0, _ => exact u_la_X4_0
  | 1, _ => exact u_la_X4_1
  | 2, _ => exact u_la_X4_2
  | 3, _ => exact u_la_X4_3
  | 4, _ => exact u_la_X4_4
  | 5, _ => exact u_la_X4_5
  | 6, _ => exact u_la_X4_6
  | 7, _ => exact u_la_X4_7
  | 8, _ => exact u_la_X4_8
  | 9, _ => exact u_la_X4_9
  | j + 10, hj => exact absurd hj (by omega)
theorem u_la_X5_0 : u_lay RX5 TX5 0 ∈ UW := UW_in (i := 600) (by decide +kernel) (by decide +kernel)
theorem u_la_X5_1 : u_lay RX5 TX5 1 ∈ UW := UW_in (i := 602) (by decide +kernel) (by decide +kernel)
theorem u_la_X5_2 : u_lay RX5 TX5 2 ∈ UW := UW_in (i := 604) (by decide +kernel) (by decide +kernel)
theorem u_la_X5_3 : u_lay RX5 TX5 3 ∈ UW := UW_in (i := 606) (by decide +kernel) (by decide +kernel)
theorem u_la_X5_4 : u_lay RX5 TX5 4 ∈ UW := UW_in (i := 608) (by decide +kernel) (by decide +kernel)
theorem u_la_X5_5 : u_lay RX5 TX5 5 ∈ UW := UW_in (i := 610) (by decide +kernel) (by decide +kernel)
theorem u_la_X5_6 : u_lay RX5 TX5 6 ∈ UW := UW_in (i := 612) (by decide +kernel) (by decide +kernel)
theorem u_la_X5_7 : u_lay RX5 TX5 7 ∈ UW := UW_in (i := 614) (by decide +kernel) (by decide +kernel)
theorem u_la_X5_8 : u_lay RX5 TX5 8 ∈ UW := UW_in (i := 616) (by decide +kernel) (by decide +kernel)
theorem u_la_X5_9 : u_lay RX5 TX5 9 ∈ UW := UW_in (i := 618) (by decide +kernel) (by decide +kernel)
theorem u_la_X5_10 : u_lay RX5 TX5 10 ∈ UW := UW_in (i := 620) (by decide +kernel) (by decide +kernel)
theorem u_la_X5_11 : u_lay RX5 TX5 11 ∈ UW := UW_in (i := 622) (by decide +kernel) (by decide +kernel)
theorem u_la_X5_12 : u_lay RX5 TX5 12 ∈ UW := UW_in (i := 624) (by decide +kernel) (by decide +kernel)
theorem u_la_X5_13 : u_lay RX5 TX5 13 ∈ UW := UW_in (i := 626) (by decide +kernel) (by decide +kernel)
theorem u_la_X5_14 : u_lay RX5 TX5 14 ∈ UW := UW_in (i := 628) (by decide +kernel) (by decide +kernel)
theorem u_la_X5_15 : u_lay RX5 TX5 15 ∈ UW := UW_in (i := 630) (by decide +kernel) (by decide +kernel)
theorem u_la_X5_16 : u_lay RX5 TX5 16 ∈ UW := UW_in (i := 632) (by decide +kernel) (by decide +kernel)
theorem u_la_X5_17 : u_lay RX5 TX5 17 ∈ UW := UW_in (i := 634) (by decide +kernel) (by decide +kernel)
theorem u_la_X5_18 : u_lay RX5 TX5 18 ∈ UW := UW_in (i := 636) (by decide +kernel) (by decide +kernel)
theorem u_la_X5_19 : u_lay RX5 TX5 19 ∈ UW := UW_in (i := 638) (by decide +kernel) (by decide +kernel)
theorem u_la_X5_20 : u_lay RX5 TX5 20 ∈ UW := UW_in (i := 640) (by decide +kernel) (by decide +kernel)
theorem u_la_X5_21 : u_lay RX5 TX5 21 ∈ UW := UW_in (i := 642) (by decide +kernel) (by decide +kernel)
theorem u_la_X5_22 : u_lay RX5 TX5 22 ∈ UW := UW_in (i := 644) (by decide +kernel) (by decide +kernel)
theorem u_la_X5_23 : u_lay RX5 TX5 23 ∈ UW := UW_in (i := 646) (by decide +kernel) (by decide +kernel)
theorem u_la_X5_24 : u_lay RX5 TX5 24 ∈ UW := UW_in (i := 648) (by decide +kernel) (by decide +kernel)
theorem u_la_X5_25 : u_lay RX5 TX5 25 ∈ UW := UW_in (i := 650) (by decide +kernel) (by decide +kernel)
theorem u_la_X5_26 : u_lay RX5 TX5 26 ∈ UW := UW_in (i := 652) (by decide +kernel) (by decide +kernel)
theorem u_la_X5_27 : u_lay RX5 TX5 27 ∈ UW := UW_in (i := 654) (by decide +kernel) (by decide +kernel)
theorem u_la_X5_28 : u_lay RX5 TX5 28 ∈ UW := UW_in (i := 656) (by decide +kernel) (by decide +kernel)
theorem u_la_X5_29 : u_lay RX5 TX5 29 ∈ UW := UW_in (i := 658) (by decide +kernel) (by decide +kernel)
theorem u_la_X5_30 : u_lay RX5 TX5 30 ∈ UW := UW_in (i := 660) (by decide +kernel) (by decide +kernel)
theorem u_la_X5_31 : u_lay RX5 TX5 31 ∈ UW := UW_in (i := 662) (by decide +kernel) (by decide +kernel)
theorem u_la_X5_32 : u_lay RX5 TX5 32 ∈ UW := UW_in (i := 664) (by decide +kernel) (by decide +kernel)
theorem u_la_X5_33 : u_lay RX5 TX5 33 ∈ UW := UW_in (i := 666) (by decide +kernel) (by decide +kernel)
theorem u_la_X5_34 : u_lay RX5 TX5 34 ∈ UW := UW_in (i := 668) (by decide +kernel) (by decide +kernel)
theorem u_hin5 : ∀ w ∈ u_ws RX5 TX5 35, w ∈ UW := by
  intro w hw
  obtain ⟨j, hj, rfl⟩ := List.mem_map.mp hw
  have hj := List.mem_range.mp hj
  match j, hj with
  | 0, _ => exact u_la_X5_0
  | 1, _ => exact u_la_X5_1
  | 2, _ => exact u_la_X5_2
  | 3, _ => exact u_la_X5_3
  | 4, _ => exact u_la_X5_4
  | 5, _ => exact u_la_X5_5
  | 6, _ => exact u_la_X5_6
  | 7, _ => exact u_la_X5_7
  | 8, _ => exact u_la_X5_8
  | 9, _ => exact u_la_X5_9
  | 10, _ => exact u_la_X5_10
  | 11, _ => exact u_la_X5_11
  | 12, _ => exact u_la_X5_12
  | 13, _ => exact u_la_X5_13
  | 14, _ => exact u_la_X5_14
  | 15, _ => exact u_la_X5_15
  | 16, _ => exact u_la_X5_16
  | 17, _ => exact u_la_X5_17
  | 18, _ => exact u_la_X5_18
  | 19, _ => exact u_la_X5_19
  | 20, _ => exact u_la_X5_20
  | 21, _ => exact u_la_X5_21
  | 22, _ => exact u_la_X5_22
  | 23, _ => exact u_la_X5_23
  | 24, _ => exact u_la_X5_24
  | 25, _ => exact u_la_X5_25
  | 26, _ => exact u_la_X5_26
  | 27, _ => exact u_la_X5_27
  | 28, _ => exact u_la_X5_28
  | 29, _ => exact u_la_X5_29
  | 30, _ => exact u_la_X5_30
  | 31, _ => exact u_la_X5_31
  | 32, _ => exact u_la_X5_32
  | 33, _ => exact u_la_X5_33
  | 34, _ => exact u_la_X5_34
  | j + 35, hj => exact absurd hj (by omega)
