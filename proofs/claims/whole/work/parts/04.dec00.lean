theorem dX0_init_0 : decode cX0_init 0 = .ok (.aload_n 0, 1) := by decide +kernel
theorem dX0_init_1 : decode cX0_init 1 = .ok (.invokespecial 3, 3) := by decide +kernel
theorem dX0_init_4 : decode cX0_init 4 = .ok (.aload_n 0, 1) := by decide +kernel
theorem dX0_init_5 : decode cX0_init 5 = .ok (.iconst 3, 1) := by decide +kernel
theorem dX0_init_6 : decode cX0_init 6 = .ok (.newarray .int, 2) := by decide +kernel
theorem dX0_init_8 : decode cX0_init 8 = .ok (.putfield 9, 3) := by decide +kernel
theorem dX0_init_11 : decode cX0_init 11 = .ok (.aload_n 0, 1) := by decide +kernel
theorem dX0_init_12 : decode cX0_init 12 = .ok (.iconst 3, 1) := by decide +kernel
theorem dX0_init_13 : decode cX0_init 13 = .ok (.newarray .int, 2) := by decide +kernel
theorem dX0_init_15 : decode cX0_init 15 = .ok (.putfield 15, 3) := by decide +kernel
theorem dX0_init_18 : decode cX0_init 18 = .ok (.aload_n 0, 1) := by decide +kernel
theorem dX0_init_19 : decode cX0_init 19 = .ok (.iconst 3, 1) := by decide +kernel
theorem dX0_init_20 : decode cX0_init 20 = .ok (.newarray .int, 2) := by decide +kernel
theorem dX0_init_22 : decode cX0_init 22 = .ok (.putfield 18, 3) := by decide +kernel
theorem dX0_init_25 : decode cX0_init 25 = .ok (.aload_n 0, 1) := by decide +kernel
theorem dX0_init_26 : decode cX0_init 26 = .ok (.iconst 3, 1) := by decide +kernel
theorem dX0_init_27 : decode cX0_init 27 = .ok (.newarray .int, 2) := by decide +kernel
theorem dX0_init_29 : decode cX0_init 29 = .ok (.putfield 21, 3) := by decide +kernel
theorem dX0_init_32 : decode cX0_init 32 = .ok (.aload_n 0, 1) := by decide +kernel
theorem dX0_init_33 : decode cX0_init 33 = .ok (.iconst 3, 1) := by decide +kernel
theorem dX0_init_34 : decode cX0_init 34 = .ok (.newarray .int, 2) := by decide +kernel
theorem dX0_init_36 : decode cX0_init 36 = .ok (.putfield 24, 3) := by decide +kernel
theorem dX0_init_39 : decode cX0_init 39 = .ok (.aload_n 0, 1) := by decide +kernel
theorem dX0_init_40 : decode cX0_init 40 = .ok (.iconst 0, 1) := by decide +kernel
theorem dX0_init_41 : decode cX0_init 41 = .ok (.putfield 27, 3) := by decide +kernel
theorem dX0_init_44 : decode cX0_init 44 = .ok (.aload_n 0, 1) := by decide +kernel
theorem dX0_init_45 : decode cX0_init 45 = .ok (.iconst 0, 1) := by decide +kernel
theorem dX0_init_46 : decode cX0_init 46 = .ok (.putfield 31, 3) := by decide +kernel
theorem dX0_init_49 : decode cX0_init 49 = .ok (.aload_n 0, 1) := by decide +kernel
theorem dX0_init_50 : decode cX0_init 50 = .ok (.iconst 0, 1) := by decide +kernel
theorem dX0_init_51 : decode cX0_init 51 = .ok (.putfield 34, 3) := by decide +kernel
theorem dX0_init_54 : decode cX0_init 54 = .ok (.return_, 1) := by decide +kernel
theorem dX0_open_0 : decode cX0_open 0 = .ok (.iload_n 1, 1) := by decide +kernel
theorem dX0_open_1 : decode cX0_open 1 = .ok (.ifCond .lt 30, 3) := by decide +kernel
theorem dX0_open_4 : decode cX0_open 4 = .ok (.iload_n 1, 1) := by decide +kernel
theorem dX0_open_5 : decode cX0_open 5 = .ok (.iconst 3, 1) := by decide +kernel
theorem dX0_open_6 : decode cX0_open 6 = .ok (.if_icmp .ge 25, 3) := by decide +kernel
theorem dX0_open_9 : decode cX0_open 9 = .ok (.aload_n 0, 1) := by decide +kernel
theorem dX0_open_10 : decode cX0_open 10 = .ok (.getfield 9, 3) := by decide +kernel
theorem dX0_open_13 : decode cX0_open 13 = .ok (.iload_n 1, 1) := by decide +kernel
theorem dX0_open_14 : decode cX0_open 14 = .ok (.iload_n 2, 1) := by decide +kernel
theorem dX0_open_15 : decode cX0_open 15 = .ok (.iastore, 1) := by decide +kernel
theorem dX0_open_16 : decode cX0_open 16 = .ok (.aload_n 0, 1) := by decide +kernel
theorem dX0_open_17 : decode cX0_open 17 = .ok (.getfield 15, 3) := by decide +kernel
theorem dX0_open_20 : decode cX0_open 20 = .ok (.iload_n 1, 1) := by decide +kernel
theorem dX0_open_21 : decode cX0_open 21 = .ok (.iload_n 3, 1) := by decide +kernel
theorem dX0_open_22 : decode cX0_open 22 = .ok (.iastore, 1) := by decide +kernel
theorem dX0_open_23 : decode cX0_open 23 = .ok (.aload_n 0, 1) := by decide +kernel
theorem dX0_open_24 : decode cX0_open 24 = .ok (.getfield 21, 3) := by decide +kernel
theorem dX0_open_27 : decode cX0_open 27 = .ok (.iload_n 1, 1) := by decide +kernel
theorem dX0_open_28 : decode cX0_open 28 = .ok (.iload 4, 2) := by decide +kernel
theorem dX0_open_30 : decode cX0_open 30 = .ok (.iastore, 1) := by decide +kernel
theorem dX0_open_31 : decode cX0_open 31 = .ok (.return_, 1) := by decide +kernel
theorem dX0_close_0 : decode cX0_close 0 = .ok (.iload_n 1, 1) := by decide +kernel
theorem dX0_close_1 : decode cX0_close 1 = .ok (.ifCond .lt 29, 3) := by decide +kernel
theorem dX0_close_4 : decode cX0_close 4 = .ok (.iload_n 1, 1) := by decide +kernel
theorem dX0_close_5 : decode cX0_close 5 = .ok (.iconst 3, 1) := by decide +kernel
theorem dX0_close_6 : decode cX0_close 6 = .ok (.if_icmp .ge 24, 3) := by decide +kernel
theorem dX0_close_9 : decode cX0_close 9 = .ok (.aload_n 0, 1) := by decide +kernel
theorem dX0_close_10 : decode cX0_close 10 = .ok (.getfield 18, 3) := by decide +kernel
theorem dX0_close_13 : decode cX0_close 13 = .ok (.iload_n 1, 1) := by decide +kernel
theorem dX0_close_14 : decode cX0_close 14 = .ok (.iload_n 2, 1) := by decide +kernel
theorem dX0_close_15 : decode cX0_close 15 = .ok (.iastore, 1) := by decide +kernel
theorem dX0_close_16 : decode cX0_close 16 = .ok (.aload_n 0, 1) := by decide +kernel
theorem dX0_close_17 : decode cX0_close 17 = .ok (.getfield 24, 3) := by decide +kernel
theorem dX0_close_20 : decode cX0_close 20 = .ok (.iload_n 1, 1) := by decide +kernel
theorem dX0_close_21 : decode cX0_close 21 = .ok (.iload_n 3, 1) := by decide +kernel
theorem dX0_close_22 : decode cX0_close 22 = .ok (.iastore, 1) := by decide +kernel
theorem dX0_close_23 : decode cX0_close 23 = .ok (.aload_n 0, 1) := by decide +kernel
theorem dX0_close_24 : decode cX0_close 24 = .ok (.iload_n 1, 1) := by decide +kernel
theorem dX0_close_25 : decode cX0_close 25 = .ok (.iconst 1, 1) := by decide +kernel
theorem dX0_close_26 : decode cX0_close 26 = .ok (.iadd, 1) := by decide +kernel
theorem dX0_close_27 : decode cX0_close 27 = .ok (.putfield 27, 3) := by decide +kernel
theorem dX0_close_30 : decode cX0_close 30 = .ok (.return_, 1) := by decide +kernel
theorem dX0_isRiddenBy_0 : decode cX0_isRiddenBy 0 = .ok (.iconst 0, 1) := by decide +kernel
theorem dX0_isRiddenBy_1 : decode cX0_isRiddenBy 1 = .ok (.istore_n 3, 1) := by decide +kernel
theorem dX0_isRiddenBy_2 : decode cX0_isRiddenBy 2 = .ok (.iload_n 3, 1) := by decide +kernel
theorem dX0_isRiddenBy_3 : decode cX0_isRiddenBy 3 = .ok (.iload_n 2, 1) := by decide +kernel
theorem dX0_isRiddenBy_4 : decode cX0_isRiddenBy 4 = .ok (.if_icmp .ge 26, 3) := by decide +kernel
theorem dX0_isRiddenBy_7 : decode cX0_isRiddenBy 7 = .ok (.iload_n 3, 1) := by decide +kernel
theorem dX0_isRiddenBy_8 : decode cX0_isRiddenBy 8 = .ok (.iconst 3, 1) := by decide +kernel
theorem dX0_isRiddenBy_9 : decode cX0_isRiddenBy 9 = .ok (.if_icmp .ge 21, 3) := by decide +kernel
theorem dX0_isRiddenBy_12 : decode cX0_isRiddenBy 12 = .ok (.aload_n 0, 1) := by decide +kernel
theorem dX0_isRiddenBy_13 : decode cX0_isRiddenBy 13 = .ok (.getfield 9, 3) := by decide +kernel
theorem dX0_isRiddenBy_16 : decode cX0_isRiddenBy 16 = .ok (.iload_n 3, 1) := by decide +kernel
theorem dX0_isRiddenBy_17 : decode cX0_isRiddenBy 17 = .ok (.iaload, 1) := by decide +kernel
theorem dX0_isRiddenBy_18 : decode cX0_isRiddenBy 18 = .ok (.iload_n 1, 1) := by decide +kernel
theorem dX0_isRiddenBy_19 : decode cX0_isRiddenBy 19 = .ok (.if_icmp .ne 5, 3) := by decide +kernel
theorem dX0_isRiddenBy_22 : decode cX0_isRiddenBy 22 = .ok (.iconst 1, 1) := by decide +kernel
theorem dX0_isRiddenBy_23 : decode cX0_isRiddenBy 23 = .ok (.ireturn, 1) := by decide +kernel
theorem dX0_isRiddenBy_24 : decode cX0_isRiddenBy 24 = .ok (.iinc 3 1, 3) := by decide +kernel
theorem dX0_isRiddenBy_27 : decode cX0_isRiddenBy 27 = .ok (.goto (-25), 3) := by decide +kernel
theorem dX0_isRiddenBy_30 : decode cX0_isRiddenBy 30 = .ok (.iconst 0, 1) := by decide +kernel
theorem dX0_isRiddenBy_31 : decode cX0_isRiddenBy 31 = .ok (.ireturn, 1) := by decide +kernel
theorem dX0_comesFrom_0 : decode cX0_comesFrom 0 = .ok (.iconst 0, 1) := by decide +kernel
theorem dX0_comesFrom_1 : decode cX0_comesFrom 1 = .ok (.istore_n 3, 1) := by decide +kernel
theorem dX0_comesFrom_2 : decode cX0_comesFrom 2 = .ok (.iload_n 3, 1) := by decide +kernel
theorem dX0_comesFrom_3 : decode cX0_comesFrom 3 = .ok (.iload_n 2, 1) := by decide +kernel
theorem dX0_comesFrom_4 : decode cX0_comesFrom 4 = .ok (.if_icmp .ge 26, 3) := by decide +kernel
theorem dX0_comesFrom_7 : decode cX0_comesFrom 7 = .ok (.iload_n 3, 1) := by decide +kernel
theorem dX0_comesFrom_8 : decode cX0_comesFrom 8 = .ok (.iconst 3, 1) := by decide +kernel
theorem dX0_comesFrom_9 : decode cX0_comesFrom 9 = .ok (.if_icmp .ge 21, 3) := by decide +kernel
theorem dX0_comesFrom_12 : decode cX0_comesFrom 12 = .ok (.aload_n 0, 1) := by decide +kernel
theorem dX0_comesFrom_13 : decode cX0_comesFrom 13 = .ok (.getfield 15, 3) := by decide +kernel
theorem dX0_comesFrom_16 : decode cX0_comesFrom 16 = .ok (.iload_n 3, 1) := by decide +kernel
theorem dX0_comesFrom_17 : decode cX0_comesFrom 17 = .ok (.iaload, 1) := by decide +kernel
theorem dX0_comesFrom_18 : decode cX0_comesFrom 18 = .ok (.iload_n 1, 1) := by decide +kernel
theorem dX0_comesFrom_19 : decode cX0_comesFrom 19 = .ok (.if_icmp .ne 5, 3) := by decide +kernel
theorem dX0_comesFrom_22 : decode cX0_comesFrom 22 = .ok (.iconst 1, 1) := by decide +kernel
theorem dX0_comesFrom_23 : decode cX0_comesFrom 23 = .ok (.ireturn, 1) := by decide +kernel
theorem dX0_comesFrom_24 : decode cX0_comesFrom 24 = .ok (.iinc 3 1, 3) := by decide +kernel
theorem dX0_comesFrom_27 : decode cX0_comesFrom 27 = .ok (.goto (-25), 3) := by decide +kernel
theorem dX0_comesFrom_30 : decode cX0_comesFrom 30 = .ok (.iconst 0, 1) := by decide +kernel
theorem dX0_comesFrom_31 : decode cX0_comesFrom 31 = .ok (.ireturn, 1) := by decide +kernel
theorem dX0_fromOf_0 : decode cX0_fromOf 0 = .ok (.iload_n 1, 1) := by decide +kernel
theorem dX0_fromOf_1 : decode cX0_fromOf 1 = .ok (.ifCond .lt 17, 3) := by decide +kernel
theorem dX0_fromOf_4 : decode cX0_fromOf 4 = .ok (.iload_n 1, 1) := by decide +kernel
theorem dX0_fromOf_5 : decode cX0_fromOf 5 = .ok (.iconst 3, 1) := by decide +kernel
theorem dX0_fromOf_6 : decode cX0_fromOf 6 = .ok (.if_icmp .ge 12, 3) := by decide +kernel
theorem dX0_fromOf_9 : decode cX0_fromOf 9 = .ok (.aload_n 0, 1) := by decide +kernel
theorem dX0_fromOf_10 : decode cX0_fromOf 10 = .ok (.getfield 15, 3) := by decide +kernel
theorem dX0_fromOf_13 : decode cX0_fromOf 13 = .ok (.iload_n 1, 1) := by decide +kernel
theorem dX0_fromOf_14 : decode cX0_fromOf 14 = .ok (.iaload, 1) := by decide +kernel
theorem dX0_fromOf_15 : decode cX0_fromOf 15 = .ok (.goto 4, 3) := by decide +kernel
theorem dX0_fromOf_18 : decode cX0_fromOf 18 = .ok (.iconst (-1), 1) := by decide +kernel
theorem dX0_fromOf_19 : decode cX0_fromOf 19 = .ok (.ireturn, 1) := by decide +kernel
theorem dX0_lastEnd_0 : decode cX0_lastEnd 0 = .ok (.aload_n 0, 1) := by decide +kernel
theorem dX0_lastEnd_1 : decode cX0_lastEnd 1 = .ok (.getfield 27, 3) := by decide +kernel
theorem dX0_lastEnd_4 : decode cX0_lastEnd 4 = .ok (.iconst 1, 1) := by decide +kernel
theorem dX0_lastEnd_5 : decode cX0_lastEnd 5 = .ok (.if_icmp .lt 25, 3) := by decide +kernel
theorem dX0_lastEnd_8 : decode cX0_lastEnd 8 = .ok (.aload_n 0, 1) := by decide +kernel
theorem dX0_lastEnd_9 : decode cX0_lastEnd 9 = .ok (.getfield 27, 3) := by decide +kernel
theorem dX0_lastEnd_12 : decode cX0_lastEnd 12 = .ok (.iconst 3, 1) := by decide +kernel
theorem dX0_lastEnd_13 : decode cX0_lastEnd 13 = .ok (.if_icmp .gt 17, 3) := by decide +kernel
theorem dX0_lastEnd_16 : decode cX0_lastEnd 16 = .ok (.aload_n 0, 1) := by decide +kernel
theorem dX0_lastEnd_17 : decode cX0_lastEnd 17 = .ok (.getfield 24, 3) := by decide +kernel
theorem dX0_lastEnd_20 : decode cX0_lastEnd 20 = .ok (.aload_n 0, 1) := by decide +kernel
theorem dX0_lastEnd_21 : decode cX0_lastEnd 21 = .ok (.getfield 27, 3) := by decide +kernel
theorem dX0_lastEnd_24 : decode cX0_lastEnd 24 = .ok (.iconst 1, 1) := by decide +kernel
theorem dX0_lastEnd_25 : decode cX0_lastEnd 25 = .ok (.isub, 1) := by decide +kernel
theorem dX0_lastEnd_26 : decode cX0_lastEnd 26 = .ok (.iaload, 1) := by decide +kernel
theorem dX0_lastEnd_27 : decode cX0_lastEnd 27 = .ok (.goto 4, 3) := by decide +kernel
theorem dX0_lastEnd_30 : decode cX0_lastEnd 30 = .ok (.iconst (-1), 1) := by decide +kernel
theorem dX0_lastEnd_31 : decode cX0_lastEnd 31 = .ok (.ireturn, 1) := by decide +kernel
theorem dX0_handsOn_0 : decode cX0_handsOn 0 = .ok (.iload_n 1, 1) := by decide +kernel
theorem dX0_handsOn_1 : decode cX0_handsOn 1 = .ok (.ifCond .lt 31, 3) := by decide +kernel
theorem dX0_handsOn_4 : decode cX0_handsOn 4 = .ok (.iload_n 1, 1) := by decide +kernel
theorem dX0_handsOn_5 : decode cX0_handsOn 5 = .ok (.iconst 1, 1) := by decide +kernel
theorem dX0_handsOn_6 : decode cX0_handsOn 6 = .ok (.iadd, 1) := by decide +kernel
theorem dX0_handsOn_7 : decode cX0_handsOn 7 = .ok (.aload_n 0, 1) := by decide +kernel
theorem dX0_handsOn_8 : decode cX0_handsOn 8 = .ok (.getfield 27, 3) := by decide +kernel
theorem dX0_handsOn_11 : decode cX0_handsOn 11 = .ok (.if_icmp .ge 21, 3) := by decide +kernel
theorem dX0_handsOn_14 : decode cX0_handsOn 14 = .ok (.iload_n 1, 1) := by decide +kernel
theorem dX0_handsOn_15 : decode cX0_handsOn 15 = .ok (.iconst 1, 1) := by decide +kernel
theorem dX0_handsOn_16 : decode cX0_handsOn 16 = .ok (.iadd, 1) := by decide +kernel
theorem dX0_handsOn_17 : decode cX0_handsOn 17 = .ok (.iconst 3, 1) := by decide +kernel
theorem dX0_handsOn_18 : decode cX0_handsOn 18 = .ok (.if_icmp .ge 14, 3) := by decide +kernel
theorem dX0_handsOn_21 : decode cX0_handsOn 21 = .ok (.aload_n 0, 1) := by decide +kernel
theorem dX0_handsOn_22 : decode cX0_handsOn 22 = .ok (.getfield 21, 3) := by decide +kernel
theorem dX0_handsOn_25 : decode cX0_handsOn 25 = .ok (.iload_n 1, 1) := by decide +kernel
theorem dX0_handsOn_26 : decode cX0_handsOn 26 = .ok (.iconst 1, 1) := by decide +kernel
theorem dX0_handsOn_27 : decode cX0_handsOn 27 = .ok (.iadd, 1) := by decide +kernel
theorem dX0_handsOn_28 : decode cX0_handsOn 28 = .ok (.iaload, 1) := by decide +kernel
theorem dX0_handsOn_29 : decode cX0_handsOn 29 = .ok (.goto 7, 3) := by decide +kernel
theorem dX0_handsOn_32 : decode cX0_handsOn 32 = .ok (.aload_n 0, 1) := by decide +kernel
theorem dX0_handsOn_33 : decode cX0_handsOn 33 = .ok (.invokevirtual 37, 3) := by decide +kernel
theorem dX0_handsOn_36 : decode cX0_handsOn 36 = .ok (.ireturn, 1) := by decide +kernel
theorem dX0_take_0 : decode cX0_take 0 = .ok (.iconst 0, 1) := by decide +kernel
theorem dX0_take_1 : decode cX0_take 1 = .ok (.istore_n 2, 1) := by decide +kernel
theorem dX0_take_2 : decode cX0_take 2 = .ok (.iload_n 2, 1) := by decide +kernel
theorem dX0_take_3 : decode cX0_take 3 = .ok (.iconst 3, 1) := by decide +kernel
theorem dX0_take_4 : decode cX0_take 4 = .ok (.if_icmp .ge 69, 3) := by decide +kernel
theorem dX0_take_7 : decode cX0_take 7 = .ok (.aload_n 0, 1) := by decide +kernel
theorem dX0_take_8 : decode cX0_take 8 = .ok (.getfield 9, 3) := by decide +kernel
theorem dX0_take_11 : decode cX0_take 11 = .ok (.iload_n 2, 1) := by decide +kernel
theorem dX0_take_12 : decode cX0_take 12 = .ok (.aload_n 1, 1) := by decide +kernel
theorem dX0_take_13 : decode cX0_take 13 = .ok (.getfield 9, 3) := by decide +kernel
theorem dX0_take_16 : decode cX0_take 16 = .ok (.iload_n 2, 1) := by decide +kernel
theorem dX0_take_17 : decode cX0_take 17 = .ok (.iaload, 1) := by decide +kernel
theorem dX0_take_18 : decode cX0_take 18 = .ok (.iastore, 1) := by decide +kernel
theorem dX0_take_19 : decode cX0_take 19 = .ok (.aload_n 0, 1) := by decide +kernel
theorem dX0_take_20 : decode cX0_take 20 = .ok (.getfield 15, 3) := by decide +kernel
theorem dX0_take_23 : decode cX0_take 23 = .ok (.iload_n 2, 1) := by decide +kernel
theorem dX0_take_24 : decode cX0_take 24 = .ok (.aload_n 1, 1) := by decide +kernel
theorem dX0_take_25 : decode cX0_take 25 = .ok (.getfield 15, 3) := by decide +kernel
theorem dX0_take_28 : decode cX0_take 28 = .ok (.iload_n 2, 1) := by decide +kernel
theorem dX0_take_29 : decode cX0_take 29 = .ok (.iaload, 1) := by decide +kernel
theorem dX0_take_30 : decode cX0_take 30 = .ok (.iastore, 1) := by decide +kernel
theorem dX0_take_31 : decode cX0_take 31 = .ok (.aload_n 0, 1) := by decide +kernel
theorem dX0_take_32 : decode cX0_take 32 = .ok (.getfield 18, 3) := by decide +kernel
theorem dX0_take_35 : decode cX0_take 35 = .ok (.iload_n 2, 1) := by decide +kernel
theorem dX0_take_36 : decode cX0_take 36 = .ok (.aload_n 1, 1) := by decide +kernel
theorem dX0_take_37 : decode cX0_take 37 = .ok (.getfield 18, 3) := by decide +kernel
theorem dX0_take_40 : decode cX0_take 40 = .ok (.iload_n 2, 1) := by decide +kernel
theorem dX0_take_41 : decode cX0_take 41 = .ok (.iaload, 1) := by decide +kernel
theorem dX0_take_42 : decode cX0_take 42 = .ok (.iastore, 1) := by decide +kernel
theorem dX0_take_43 : decode cX0_take 43 = .ok (.aload_n 0, 1) := by decide +kernel
theorem dX0_take_44 : decode cX0_take 44 = .ok (.getfield 21, 3) := by decide +kernel
theorem dX0_take_47 : decode cX0_take 47 = .ok (.iload_n 2, 1) := by decide +kernel
theorem dX0_take_48 : decode cX0_take 48 = .ok (.aload_n 1, 1) := by decide +kernel
theorem dX0_take_49 : decode cX0_take 49 = .ok (.getfield 21, 3) := by decide +kernel
theorem dX0_take_52 : decode cX0_take 52 = .ok (.iload_n 2, 1) := by decide +kernel
theorem dX0_take_53 : decode cX0_take 53 = .ok (.iaload, 1) := by decide +kernel
theorem dX0_take_54 : decode cX0_take 54 = .ok (.iastore, 1) := by decide +kernel
theorem dX0_take_55 : decode cX0_take 55 = .ok (.aload_n 0, 1) := by decide +kernel
theorem dX0_take_56 : decode cX0_take 56 = .ok (.getfield 24, 3) := by decide +kernel
theorem dX0_take_59 : decode cX0_take 59 = .ok (.iload_n 2, 1) := by decide +kernel
theorem dX0_take_60 : decode cX0_take 60 = .ok (.aload_n 1, 1) := by decide +kernel
theorem dX0_take_61 : decode cX0_take 61 = .ok (.getfield 24, 3) := by decide +kernel
theorem dX0_take_64 : decode cX0_take 64 = .ok (.iload_n 2, 1) := by decide +kernel
theorem dX0_take_65 : decode cX0_take 65 = .ok (.iaload, 1) := by decide +kernel
theorem dX0_take_66 : decode cX0_take 66 = .ok (.iastore, 1) := by decide +kernel
theorem dX0_take_67 : decode cX0_take 67 = .ok (.iinc 2 1, 3) := by decide +kernel
theorem dX0_take_70 : decode cX0_take 70 = .ok (.goto (-68), 3) := by decide +kernel
theorem dX0_take_73 : decode cX0_take 73 = .ok (.aload_n 0, 1) := by decide +kernel
theorem dX0_take_74 : decode cX0_take 74 = .ok (.aload_n 1, 1) := by decide +kernel
theorem dX0_take_75 : decode cX0_take 75 = .ok (.getfield 27, 3) := by decide +kernel
theorem dX0_take_78 : decode cX0_take 78 = .ok (.putfield 27, 3) := by decide +kernel
theorem dX0_take_81 : decode cX0_take 81 = .ok (.return_, 1) := by decide +kernel
theorem dX1_init_0 : decode cX1_init 0 = .ok (.aload_n 0, 1) := by decide +kernel
theorem dX1_init_1 : decode cX1_init 1 = .ok (.invokespecial 1, 3) := by decide +kernel
theorem dX1_init_4 : decode cX1_init 4 = .ok (.aload_n 0, 1) := by decide +kernel
theorem dX1_init_5 : decode cX1_init 5 = .ok (.iconst 0, 1) := by decide +kernel
theorem dX1_init_6 : decode cX1_init 6 = .ok (.putfield 7, 3) := by decide +kernel
theorem dX1_init_9 : decode cX1_init 9 = .ok (.aload_n 0, 1) := by decide +kernel
theorem dX1_init_10 : decode cX1_init 10 = .ok (.iload_n 1, 1) := by decide +kernel
theorem dX1_init_11 : decode cX1_init 11 = .ok (.putfield 13, 3) := by decide +kernel
theorem dX1_init_14 : decode cX1_init 14 = .ok (.aload_n 0, 1) := by decide +kernel
theorem dX1_init_15 : decode cX1_init 15 = .ok (.iload_n 2, 1) := by decide +kernel
theorem dX1_init_16 : decode cX1_init 16 = .ok (.putfield 17, 3) := by decide +kernel
theorem dX1_init_19 : decode cX1_init 19 = .ok (.aload_n 0, 1) := by decide +kernel
theorem dX1_init_20 : decode cX1_init 20 = .ok (.iload_n 3, 1) := by decide +kernel
theorem dX1_init_21 : decode cX1_init 21 = .ok (.putfield 20, 3) := by decide +kernel
theorem dX1_init_24 : decode cX1_init 24 = .ok (.aload_n 0, 1) := by decide +kernel
theorem dX1_init_25 : decode cX1_init 25 = .ok (.iload 4, 2) := by decide +kernel
theorem dX1_init_27 : decode cX1_init 27 = .ok (.putfield 23, 3) := by decide +kernel
theorem dX1_init_30 : decode cX1_init 30 = .ok (.aload_n 0, 1) := by decide +kernel
theorem dX1_init_31 : decode cX1_init 31 = .ok (.iload 5, 2) := by decide +kernel
theorem dX1_init_33 : decode cX1_init 33 = .ok (.putfield 26, 3) := by decide +kernel
theorem dX1_init_36 : decode cX1_init 36 = .ok (.aload_n 0, 1) := by decide +kernel
theorem dX1_init_37 : decode cX1_init 37 = .ok (.iload 6, 2) := by decide +kernel
theorem dX1_init_39 : decode cX1_init 39 = .ok (.putfield 29, 3) := by decide +kernel
theorem dX1_init_42 : decode cX1_init 42 = .ok (.aload_n 0, 1) := by decide +kernel
theorem dX1_init_43 : decode cX1_init 43 = .ok (.iload 7, 2) := by decide +kernel
theorem dX1_init_45 : decode cX1_init 45 = .ok (.putfield 32, 3) := by decide +kernel
theorem dX1_init_48 : decode cX1_init 48 = .ok (.return_, 1) := by decide +kernel
theorem dX2_init_0 : decode cX2_init 0 = .ok (.aload_n 0, 1) := by decide +kernel
theorem dX2_init_1 : decode cX2_init 1 = .ok (.invokespecial 3, 3) := by decide +kernel
theorem dX2_init_4 : decode cX2_init 4 = .ok (.aload_n 0, 1) := by decide +kernel
theorem dX2_init_5 : decode cX2_init 5 = .ok (.bipush 18, 2) := by decide +kernel
theorem dX2_init_7 : decode cX2_init 7 = .ok (.anewarray 9, 3) := by decide +kernel
theorem dX2_init_10 : decode cX2_init 10 = .ok (.putfield 11, 3) := by decide +kernel
theorem dX2_init_13 : decode cX2_init 13 = .ok (.aload_n 0, 1) := by decide +kernel
theorem dX2_init_14 : decode cX2_init 14 = .ok (.iconst 0, 1) := by decide +kernel
theorem dX2_init_15 : decode cX2_init 15 = .ok (.putfield 17, 3) := by decide +kernel
theorem dX2_init_18 : decode cX2_init 18 = .ok (.aload_n 0, 1) := by decide +kernel
theorem dX2_init_19 : decode cX2_init 19 = .ok (.iconst 0, 1) := by decide +kernel
theorem dX2_init_20 : decode cX2_init 20 = .ok (.putfield 21, 3) := by decide +kernel
theorem dX2_init_23 : decode cX2_init 23 = .ok (.aload_n 0, 1) := by decide +kernel
theorem dX2_init_24 : decode cX2_init 24 = .ok (.iconst 0, 1) := by decide +kernel
theorem dX2_init_25 : decode cX2_init 25 = .ok (.putfield 25, 3) := by decide +kernel
theorem dX2_init_28 : decode cX2_init 28 = .ok (.aload_n 0, 1) := by decide +kernel
theorem dX2_init_29 : decode cX2_init 29 = .ok (.iload_n 1, 1) := by decide +kernel
theorem dX2_init_30 : decode cX2_init 30 = .ok (.putfield 28, 3) := by decide +kernel
theorem dX2_init_33 : decode cX2_init 33 = .ok (.aload_n 0, 1) := by decide +kernel
theorem dX2_init_34 : decode cX2_init 34 = .ok (.iload_n 2, 1) := by decide +kernel
theorem dX2_init_35 : decode cX2_init 35 = .ok (.putfield 31, 3) := by decide +kernel
theorem dX2_init_38 : decode cX2_init 38 = .ok (.aload_n 0, 1) := by decide +kernel
theorem dX2_init_39 : decode cX2_init 39 = .ok (.iload_n 3, 1) := by decide +kernel
theorem dX2_init_40 : decode cX2_init 40 = .ok (.putfield 34, 3) := by decide +kernel
theorem dX2_init_43 : decode cX2_init 43 = .ok (.aload_n 0, 1) := by decide +kernel
theorem dX2_init_44 : decode cX2_init 44 = .ok (.iload 4, 2) := by decide +kernel
theorem dX2_init_46 : decode cX2_init 46 = .ok (.putfield 37, 3) := by decide +kernel
theorem dX2_init_49 : decode cX2_init 49 = .ok (.aload_n 0, 1) := by decide +kernel
theorem dX2_init_50 : decode cX2_init 50 = .ok (.iload 5, 2) := by decide +kernel
theorem dX2_init_52 : decode cX2_init 52 = .ok (.putfield 40, 3) := by decide +kernel
theorem dX2_init_55 : decode cX2_init 55 = .ok (.return_, 1) := by decide +kernel
theorem dX2_legAt_0 : decode cX2_legAt 0 = .ok (.iload_n 1, 1) := by decide +kernel
theorem dX2_legAt_1 : decode cX2_legAt 1 = .ok (.ifCond .lt 26, 3) := by decide +kernel
theorem dX2_legAt_4 : decode cX2_legAt 4 = .ok (.iload_n 1, 1) := by decide +kernel
theorem dX2_legAt_5 : decode cX2_legAt 5 = .ok (.aload_n 0, 1) := by decide +kernel
theorem dX2_legAt_6 : decode cX2_legAt 6 = .ok (.getfield 17, 3) := by decide +kernel
theorem dX2_legAt_9 : decode cX2_legAt 9 = .ok (.if_icmp .ge 18, 3) := by decide +kernel
theorem dX2_legAt_12 : decode cX2_legAt 12 = .ok (.iload_n 1, 1) := by decide +kernel
theorem dX2_legAt_13 : decode cX2_legAt 13 = .ok (.bipush 18, 2) := by decide +kernel
theorem dX2_legAt_15 : decode cX2_legAt 15 = .ok (.if_icmp .ge 12, 3) := by decide +kernel
theorem dX2_legAt_18 : decode cX2_legAt 18 = .ok (.aload_n 0, 1) := by decide +kernel
theorem dX2_legAt_19 : decode cX2_legAt 19 = .ok (.getfield 11, 3) := by decide +kernel
theorem dX2_legAt_22 : decode cX2_legAt 22 = .ok (.iload_n 1, 1) := by decide +kernel
theorem dX2_legAt_23 : decode cX2_legAt 23 = .ok (.aaload, 1) := by decide +kernel
theorem dX2_legAt_24 : decode cX2_legAt 24 = .ok (.goto 4, 3) := by decide +kernel
theorem dX2_legAt_27 : decode cX2_legAt 27 = .ok (.aconst_null, 1) := by decide +kernel
theorem dX2_legAt_28 : decode cX2_legAt 28 = .ok (.areturn, 1) := by decide +kernel
theorem dX2_addLeg_0 : decode cX2_addLeg 0 = .ok (.aload_n 0, 1) := by decide +kernel
theorem dX2_addLeg_1 : decode cX2_addLeg 1 = .ok (.getfield 17, 3) := by decide +kernel
theorem dX2_addLeg_4 : decode cX2_addLeg 4 = .ok (.ifCond .lt 32, 3) := by decide +kernel
theorem dX2_addLeg_7 : decode cX2_addLeg 7 = .ok (.aload_n 0, 1) := by decide +kernel
theorem dX2_addLeg_8 : decode cX2_addLeg 8 = .ok (.getfield 17, 3) := by decide +kernel
theorem dX2_addLeg_11 : decode cX2_addLeg 11 = .ok (.bipush 18, 2) := by decide +kernel
theorem dX2_addLeg_13 : decode cX2_addLeg 13 = .ok (.if_icmp .ge 23, 3) := by decide +kernel
theorem dX2_addLeg_16 : decode cX2_addLeg 16 = .ok (.aload_n 0, 1) := by decide +kernel
theorem dX2_addLeg_17 : decode cX2_addLeg 17 = .ok (.getfield 11, 3) := by decide +kernel
theorem dX2_addLeg_20 : decode cX2_addLeg 20 = .ok (.aload_n 0, 1) := by decide +kernel
theorem dX2_addLeg_21 : decode cX2_addLeg 21 = .ok (.getfield 17, 3) := by decide +kernel
theorem dX2_addLeg_24 : decode cX2_addLeg 24 = .ok (.aload_n 1, 1) := by decide +kernel
theorem dX2_addLeg_25 : decode cX2_addLeg 25 = .ok (.aastore, 1) := by decide +kernel
theorem dX2_addLeg_26 : decode cX2_addLeg 26 = .ok (.aload_n 0, 1) := by decide +kernel
theorem dX2_addLeg_27 : decode cX2_addLeg 27 = .ok (.dup, 1) := by decide +kernel
theorem dX2_addLeg_28 : decode cX2_addLeg 28 = .ok (.getfield 17, 3) := by decide +kernel
theorem dX2_addLeg_31 : decode cX2_addLeg 31 = .ok (.iconst 1, 1) := by decide +kernel
theorem dX2_addLeg_32 : decode cX2_addLeg 32 = .ok (.iadd, 1) := by decide +kernel
theorem dX2_addLeg_33 : decode cX2_addLeg 33 = .ok (.putfield 17, 3) := by decide +kernel
theorem dX2_addLeg_36 : decode cX2_addLeg 36 = .ok (.return_, 1) := by decide +kernel
theorem dX2_lastEnd_0 : decode cX2_lastEnd 0 = .ok (.aload_n 0, 1) := by decide +kernel
theorem dX2_lastEnd_1 : decode cX2_lastEnd 1 = .ok (.aload_n 0, 1) := by decide +kernel
theorem dX2_lastEnd_2 : decode cX2_lastEnd 2 = .ok (.getfield 17, 3) := by decide +kernel
theorem dX2_lastEnd_5 : decode cX2_lastEnd 5 = .ok (.iconst 1, 1) := by decide +kernel
theorem dX2_lastEnd_6 : decode cX2_lastEnd 6 = .ok (.isub, 1) := by decide +kernel
theorem dX2_lastEnd_7 : decode cX2_lastEnd 7 = .ok (.invokevirtual 43, 3) := by decide +kernel
theorem dX2_lastEnd_10 : decode cX2_lastEnd 10 = .ok (.astore_n 1, 1) := by decide +kernel
theorem dX2_lastEnd_11 : decode cX2_lastEnd 11 = .ok (.aload_n 1, 1) := by decide +kernel
theorem dX2_lastEnd_12 : decode cX2_lastEnd 12 = .ok (.ifnonnull 7, 3) := by decide +kernel
theorem dX2_lastEnd_15 : decode cX2_lastEnd 15 = .ok (.iconst (-1), 1) := by decide +kernel
theorem dX2_lastEnd_16 : decode cX2_lastEnd 16 = .ok (.goto 7, 3) := by decide +kernel
theorem dX2_lastEnd_19 : decode cX2_lastEnd 19 = .ok (.aload_n 1, 1) := by decide +kernel
theorem dX2_lastEnd_20 : decode cX2_lastEnd 20 = .ok (.getfield 47, 3) := by decide +kernel
theorem dX2_lastEnd_23 : decode cX2_lastEnd 23 = .ok (.ireturn, 1) := by decide +kernel
theorem dX2_cameWarm_0 : decode cX2_cameWarm 0 = .ok (.aload_n 0, 1) := by decide +kernel
theorem dX2_cameWarm_1 : decode cX2_cameWarm 1 = .ok (.getfield 21, 3) := by decide +kernel
theorem dX2_cameWarm_4 : decode cX2_cameWarm 4 = .ok (.ifCond .eq 30, 3) := by decide +kernel
theorem dX2_cameWarm_7 : decode cX2_cameWarm 7 = .ok (.aload_n 0, 1) := by decide +kernel
theorem dX2_cameWarm_8 : decode cX2_cameWarm 8 = .ok (.getfield 25, 3) := by decide +kernel
theorem dX2_cameWarm_11 : decode cX2_cameWarm 11 = .ok (.ifCond .ne 23, 3) := by decide +kernel
theorem dX2_cameWarm_14 : decode cX2_cameWarm 14 = .ok (.aload_n 0, 1) := by decide +kernel
theorem dX2_cameWarm_15 : decode cX2_cameWarm 15 = .ok (.invokevirtual 50, 3) := by decide +kernel
theorem dX2_cameWarm_18 : decode cX2_cameWarm 18 = .ok (.aload_n 0, 1) := by decide +kernel
theorem dX2_cameWarm_19 : decode cX2_cameWarm 19 = .ok (.getfield 37, 3) := by decide +kernel
theorem dX2_cameWarm_22 : decode cX2_cameWarm 22 = .ok (.isub, 1) := by decide +kernel
theorem dX2_cameWarm_23 : decode cX2_cameWarm 23 = .ok (.aload_n 0, 1) := by decide +kernel
theorem dX2_cameWarm_24 : decode cX2_cameWarm 24 = .ok (.getfield 40, 3) := by decide +kernel
theorem dX2_cameWarm_27 : decode cX2_cameWarm 27 = .ok (.if_icmp .le 7, 3) := by decide +kernel
theorem dX2_cameWarm_30 : decode cX2_cameWarm 30 = .ok (.iconst 1, 1) := by decide +kernel
theorem dX2_cameWarm_31 : decode cX2_cameWarm 31 = .ok (.goto 4, 3) := by decide +kernel
theorem dX2_cameWarm_34 : decode cX2_cameWarm 34 = .ok (.iconst 0, 1) := by decide +kernel
theorem dX2_cameWarm_35 : decode cX2_cameWarm 35 = .ok (.ireturn, 1) := by decide +kernel
theorem dX3_init_0 : decode cX3_init 0 = .ok (.aload_n 0, 1) := by decide +kernel
theorem dX3_init_1 : decode cX3_init 1 = .ok (.invokespecial 3, 3) := by decide +kernel
theorem dX3_init_4 : decode cX3_init 4 = .ok (.aload_n 0, 1) := by decide +kernel
theorem dX3_init_5 : decode cX3_init 5 = .ok (.bipush 64, 2) := by decide +kernel
theorem dX3_init_7 : decode cX3_init 7 = .ok (.newarray .int, 2) := by decide +kernel
theorem dX3_init_9 : decode cX3_init 9 = .ok (.putfield 9, 3) := by decide +kernel
theorem dX3_init_12 : decode cX3_init 12 = .ok (.aload_n 0, 1) := by decide +kernel
theorem dX3_init_13 : decode cX3_init 13 = .ok (.iconst 0, 1) := by decide +kernel
theorem dX3_init_14 : decode cX3_init 14 = .ok (.putfield 15, 3) := by decide +kernel
theorem dX3_init_17 : decode cX3_init 17 = .ok (.aload_n 0, 1) := by decide +kernel
theorem dX3_init_18 : decode cX3_init 18 = .ok (.iconst 0, 1) := by decide +kernel
theorem dX3_init_19 : decode cX3_init 19 = .ok (.putfield 19, 3) := by decide +kernel
theorem dX3_init_22 : decode cX3_init 22 = .ok (.aload_n 0, 1) := by decide +kernel
theorem dX3_init_23 : decode cX3_init 23 = .ok (.iconst 0, 1) := by decide +kernel
theorem dX3_init_24 : decode cX3_init 24 = .ok (.putfield 22, 3) := by decide +kernel
theorem dX3_init_27 : decode cX3_init 27 = .ok (.aload_n 0, 1) := by decide +kernel
theorem dX3_init_28 : decode cX3_init 28 = .ok (.iload_n 1, 1) := by decide +kernel
theorem dX3_init_29 : decode cX3_init 29 = .ok (.putfield 26, 3) := by decide +kernel
theorem dX3_init_32 : decode cX3_init 32 = .ok (.aload_n 0, 1) := by decide +kernel
theorem dX3_init_33 : decode cX3_init 33 = .ok (.iload_n 2, 1) := by decide +kernel
theorem dX3_init_34 : decode cX3_init 34 = .ok (.putfield 29, 3) := by decide +kernel
theorem dX3_init_37 : decode cX3_init 37 = .ok (.aload_n 0, 1) := by decide +kernel
theorem dX3_init_38 : decode cX3_init 38 = .ok (.iload_n 3, 1) := by decide +kernel
theorem dX3_init_39 : decode cX3_init 39 = .ok (.putfield 32, 3) := by decide +kernel
theorem dX3_init_42 : decode cX3_init 42 = .ok (.aload_n 0, 1) := by decide +kernel
theorem dX3_init_43 : decode cX3_init 43 = .ok (.iload 4, 2) := by decide +kernel
theorem dX3_init_45 : decode cX3_init 45 = .ok (.putfield 35, 3) := by decide +kernel
theorem dX3_init_48 : decode cX3_init 48 = .ok (.aload_n 0, 1) := by decide +kernel
theorem dX3_init_49 : decode cX3_init 49 = .ok (.iload 5, 2) := by decide +kernel
theorem dX3_init_51 : decode cX3_init 51 = .ok (.putfield 38, 3) := by decide +kernel
theorem dX3_init_54 : decode cX3_init 54 = .ok (.aload_n 0, 1) := by decide +kernel
theorem dX3_init_55 : decode cX3_init 55 = .ok (.iload_n 1, 1) := by decide +kernel
theorem dX3_init_56 : decode cX3_init 56 = .ok (.putfield 41, 3) := by decide +kernel
theorem dX3_init_59 : decode cX3_init 59 = .ok (.aload_n 0, 1) := by decide +kernel
theorem dX3_init_60 : decode cX3_init 60 = .ok (.iload_n 3, 1) := by decide +kernel
theorem dX3_init_61 : decode cX3_init 61 = .ok (.putfield 44, 3) := by decide +kernel
theorem dX3_init_64 : decode cX3_init 64 = .ok (.return_, 1) := by decide +kernel
theorem dX3_carries_0 : decode cX3_carries 0 = .ok (.aload_n 0, 1) := by decide +kernel
theorem dX3_carries_1 : decode cX3_carries 1 = .ok (.getfield 22, 3) := by decide +kernel
theorem dX3_carries_4 : decode cX3_carries 4 = .ok (.ifCond .ne 18, 3) := by decide +kernel
theorem dX3_carries_7 : decode cX3_carries 7 = .ok (.aload_n 0, 1) := by decide +kernel
theorem dX3_carries_8 : decode cX3_carries 8 = .ok (.getfield 38, 3) := by decide +kernel
theorem dX3_carries_11 : decode cX3_carries 11 = .ok (.iload_n 1, 1) := by decide +kernel
theorem dX3_carries_12 : decode cX3_carries 12 = .ok (.invokestatic 47, 3) := by decide +kernel
theorem dX3_carries_15 : decode cX3_carries 15 = .ok (.ifCond .eq 7, 3) := by decide +kernel
theorem dX3_carries_18 : decode cX3_carries 18 = .ok (.iconst 1, 1) := by decide +kernel
theorem dX3_carries_19 : decode cX3_carries 19 = .ok (.goto 4, 3) := by decide +kernel
theorem dX3_carries_22 : decode cX3_carries 22 = .ok (.iconst 0, 1) := by decide +kernel
theorem dX3_carries_23 : decode cX3_carries 23 = .ok (.ireturn, 1) := by decide +kernel
theorem dX3_isOnDuty_0 : decode cX3_isOnDuty 0 = .ok (.aload_n 0, 1) := by decide +kernel
theorem dX3_isOnDuty_1 : decode cX3_isOnDuty 1 = .ok (.getfield 32, 3) := by decide +kernel
theorem dX3_isOnDuty_4 : decode cX3_isOnDuty 4 = .ok (.iload_n 1, 1) := by decide +kernel
theorem dX3_isOnDuty_5 : decode cX3_isOnDuty 5 = .ok (.if_icmp .gt 15, 3) := by decide +kernel
theorem dX3_isOnDuty_8 : decode cX3_isOnDuty 8 = .ok (.iload_n 1, 1) := by decide +kernel
theorem dX3_isOnDuty_9 : decode cX3_isOnDuty 9 = .ok (.aload_n 0, 1) := by decide +kernel
theorem dX3_isOnDuty_10 : decode cX3_isOnDuty 10 = .ok (.getfield 35, 3) := by decide +kernel
theorem dX3_isOnDuty_13 : decode cX3_isOnDuty 13 = .ok (.if_icmp .gt 7, 3) := by decide +kernel
theorem dX3_isOnDuty_16 : decode cX3_isOnDuty 16 = .ok (.iconst 1, 1) := by decide +kernel
theorem dX3_isOnDuty_17 : decode cX3_isOnDuty 17 = .ok (.goto 4, 3) := by decide +kernel
theorem dX3_isOnDuty_20 : decode cX3_isOnDuty 20 = .ok (.iconst 0, 1) := by decide +kernel
theorem dX3_isOnDuty_21 : decode cX3_isOnDuty 21 = .ok (.ireturn, 1) := by decide +kernel
theorem dX3_shortenWays_0 : decode cX3_shortenWays 0 = .ok (.iconst 0, 1) := by decide +kernel
theorem dX3_shortenWays_1 : decode cX3_shortenWays 1 = .ok (.istore_n 1, 1) := by decide +kernel
theorem dX3_shortenWays_2 : decode cX3_shortenWays 2 = .ok (.iload_n 1, 1) := by decide +kernel
theorem dX3_shortenWays_3 : decode cX3_shortenWays 3 = .ok (.bipush 8, 2) := by decide +kernel
theorem dX3_shortenWays_5 : decode cX3_shortenWays 5 = .ok (.if_icmp .ge 121, 3) := by decide +kernel
theorem dX3_shortenWays_8 : decode cX3_shortenWays 8 = .ok (.iconst 0, 1) := by decide +kernel
theorem dX3_shortenWays_9 : decode cX3_shortenWays 9 = .ok (.istore_n 2, 1) := by decide +kernel
theorem dX3_shortenWays_10 : decode cX3_shortenWays 10 = .ok (.iload_n 2, 1) := by decide +kernel
theorem dX3_shortenWays_11 : decode cX3_shortenWays 11 = .ok (.bipush 8, 2) := by decide +kernel
theorem dX3_shortenWays_13 : decode cX3_shortenWays 13 = .ok (.if_icmp .ge 107, 3) := by decide +kernel
theorem dX3_shortenWays_16 : decode cX3_shortenWays 16 = .ok (.aload_n 0, 1) := by decide +kernel
theorem dX3_shortenWays_17 : decode cX3_shortenWays 17 = .ok (.getfield 9, 3) := by decide +kernel
theorem dX3_shortenWays_20 : decode cX3_shortenWays 20 = .ok (.iload_n 2, 1) := by decide +kernel
theorem dX3_shortenWays_21 : decode cX3_shortenWays 21 = .ok (.bipush 8, 2) := by decide +kernel
theorem dX3_shortenWays_23 : decode cX3_shortenWays 23 = .ok (.imul, 1) := by decide +kernel
theorem dX3_shortenWays_24 : decode cX3_shortenWays 24 = .ok (.iload_n 1, 1) := by decide +kernel
theorem dX3_shortenWays_25 : decode cX3_shortenWays 25 = .ok (.iadd, 1) := by decide +kernel
theorem dX3_shortenWays_26 : decode cX3_shortenWays 26 = .ok (.iaload, 1) := by decide +kernel
theorem dX3_shortenWays_27 : decode cX3_shortenWays 27 = .ok (.istore_n 3, 1) := by decide +kernel
theorem dX3_shortenWays_28 : decode cX3_shortenWays 28 = .ok (.iconst 0, 1) := by decide +kernel
theorem dX3_shortenWays_29 : decode cX3_shortenWays 29 = .ok (.istore 4, 2) := by decide +kernel
theorem dX3_shortenWays_31 : decode cX3_shortenWays 31 = .ok (.iload_n 3, 1) := by decide +kernel
theorem dX3_shortenWays_32 : decode cX3_shortenWays 32 = .ok (.iconst (-1), 1) := by decide +kernel
theorem dX3_shortenWays_33 : decode cX3_shortenWays 33 = .ok (.if_icmp .eq 81, 3) := by decide +kernel
theorem dX3_shortenWays_36 : decode cX3_shortenWays 36 = .ok (.iload 4, 2) := by decide +kernel
theorem dX3_shortenWays_38 : decode cX3_shortenWays 38 = .ok (.bipush 8, 2) := by decide +kernel
theorem dX3_shortenWays_40 : decode cX3_shortenWays 40 = .ok (.if_icmp .ge 74, 3) := by decide +kernel
theorem dX3_shortenWays_43 : decode cX3_shortenWays 43 = .ok (.aload_n 0, 1) := by decide +kernel
theorem dX3_shortenWays_44 : decode cX3_shortenWays 44 = .ok (.getfield 9, 3) := by decide +kernel
theorem dX3_shortenWays_47 : decode cX3_shortenWays 47 = .ok (.iload_n 1, 1) := by decide +kernel
theorem dX3_shortenWays_48 : decode cX3_shortenWays 48 = .ok (.bipush 8, 2) := by decide +kernel
theorem dX3_shortenWays_50 : decode cX3_shortenWays 50 = .ok (.imul, 1) := by decide +kernel
theorem dX3_shortenWays_51 : decode cX3_shortenWays 51 = .ok (.iload 4, 2) := by decide +kernel
theorem dX3_shortenWays_53 : decode cX3_shortenWays 53 = .ok (.iadd, 1) := by decide +kernel
theorem dX3_shortenWays_54 : decode cX3_shortenWays 54 = .ok (.iaload, 1) := by decide +kernel
theorem dX3_shortenWays_55 : decode cX3_shortenWays 55 = .ok (.istore 5, 2) := by decide +kernel
theorem dX3_shortenWays_57 : decode cX3_shortenWays 57 = .ok (.aload_n 0, 1) := by decide +kernel
theorem dX3_shortenWays_58 : decode cX3_shortenWays 58 = .ok (.getfield 9, 3) := by decide +kernel
theorem dX3_shortenWays_61 : decode cX3_shortenWays 61 = .ok (.iload_n 2, 1) := by decide +kernel
theorem dX3_shortenWays_62 : decode cX3_shortenWays 62 = .ok (.bipush 8, 2) := by decide +kernel
theorem dX3_shortenWays_64 : decode cX3_shortenWays 64 = .ok (.imul, 1) := by decide +kernel
theorem dX3_shortenWays_65 : decode cX3_shortenWays 65 = .ok (.iload 4, 2) := by decide +kernel
theorem dX3_shortenWays_67 : decode cX3_shortenWays 67 = .ok (.iadd, 1) := by decide +kernel
theorem dX3_shortenWays_68 : decode cX3_shortenWays 68 = .ok (.iaload, 1) := by decide +kernel
theorem dX3_shortenWays_69 : decode cX3_shortenWays 69 = .ok (.istore 6, 2) := by decide +kernel
theorem dX3_shortenWays_71 : decode cX3_shortenWays 71 = .ok (.iload 5, 2) := by decide +kernel
theorem dX3_shortenWays_73 : decode cX3_shortenWays 73 = .ok (.iconst (-1), 1) := by decide +kernel
theorem dX3_shortenWays_74 : decode cX3_shortenWays 74 = .ok (.if_icmp .eq 34, 3) := by decide +kernel
theorem dX3_shortenWays_77 : decode cX3_shortenWays 77 = .ok (.iload 6, 2) := by decide +kernel
theorem dX3_shortenWays_79 : decode cX3_shortenWays 79 = .ok (.iconst (-1), 1) := by decide +kernel
theorem dX3_shortenWays_80 : decode cX3_shortenWays 80 = .ok (.if_icmp .eq 12, 3) := by decide +kernel
theorem dX3_shortenWays_83 : decode cX3_shortenWays 83 = .ok (.iload_n 3, 1) := by decide +kernel
theorem dX3_shortenWays_84 : decode cX3_shortenWays 84 = .ok (.iload 5, 2) := by decide +kernel
theorem dX3_shortenWays_86 : decode cX3_shortenWays 86 = .ok (.iadd, 1) := by decide +kernel
theorem dX3_shortenWays_87 : decode cX3_shortenWays 87 = .ok (.iload 6, 2) := by decide +kernel
theorem dX3_shortenWays_89 : decode cX3_shortenWays 89 = .ok (.if_icmp .ge 19, 3) := by decide +kernel
theorem dX3_shortenWays_92 : decode cX3_shortenWays 92 = .ok (.aload_n 0, 1) := by decide +kernel
theorem dX3_shortenWays_93 : decode cX3_shortenWays 93 = .ok (.getfield 9, 3) := by decide +kernel
theorem dX3_shortenWays_96 : decode cX3_shortenWays 96 = .ok (.iload_n 2, 1) := by decide +kernel
theorem dX3_shortenWays_97 : decode cX3_shortenWays 97 = .ok (.bipush 8, 2) := by decide +kernel
theorem dX3_shortenWays_99 : decode cX3_shortenWays 99 = .ok (.imul, 1) := by decide +kernel
theorem dX3_shortenWays_100 : decode cX3_shortenWays 100 = .ok (.iload 4, 2) := by decide +kernel
theorem dX3_shortenWays_102 : decode cX3_shortenWays 102 = .ok (.iadd, 1) := by decide +kernel
theorem dX3_shortenWays_103 : decode cX3_shortenWays 103 = .ok (.iload_n 3, 1) := by decide +kernel
theorem dX3_shortenWays_104 : decode cX3_shortenWays 104 = .ok (.iload 5, 2) := by decide +kernel
theorem dX3_shortenWays_106 : decode cX3_shortenWays 106 = .ok (.iadd, 1) := by decide +kernel
theorem dX3_shortenWays_107 : decode cX3_shortenWays 107 = .ok (.iastore, 1) := by decide +kernel
theorem dX3_shortenWays_108 : decode cX3_shortenWays 108 = .ok (.iinc 4 1, 3) := by decide +kernel
theorem dX3_shortenWays_111 : decode cX3_shortenWays 111 = .ok (.goto (-80), 3) := by decide +kernel
theorem dX3_shortenWays_114 : decode cX3_shortenWays 114 = .ok (.iinc 2 1, 3) := by decide +kernel
theorem dX3_shortenWays_117 : decode cX3_shortenWays 117 = .ok (.goto (-107), 3) := by decide +kernel
theorem dX3_shortenWays_120 : decode cX3_shortenWays 120 = .ok (.iinc 1 1, 3) := by decide +kernel
theorem dX3_shortenWays_123 : decode cX3_shortenWays 123 = .ok (.goto (-121), 3) := by decide +kernel
theorem dX3_shortenWays_126 : decode cX3_shortenWays 126 = .ok (.return_, 1) := by decide +kernel
theorem dJ9_max_7cf53_0 : decode cJ9_max_7cf53 0 = .ok (.iload_n 0, 1) := by decide +kernel
theorem dJ9_max_7cf53_1 : decode cJ9_max_7cf53 1 = .ok (.iload_n 1, 1) := by decide +kernel
theorem dJ9_max_7cf53_2 : decode cJ9_max_7cf53 2 = .ok (.if_icmp .lt 7, 3) := by decide +kernel
theorem dJ9_max_7cf53_5 : decode cJ9_max_7cf53 5 = .ok (.iload_n 0, 1) := by decide +kernel
theorem dJ9_max_7cf53_6 : decode cJ9_max_7cf53 6 = .ok (.goto 4, 3) := by decide +kernel
theorem dJ9_max_7cf53_9 : decode cJ9_max_7cf53 9 = .ok (.iload_n 1, 1) := by decide +kernel
theorem dJ9_max_7cf53_10 : decode cJ9_max_7cf53 10 = .ok (.ireturn, 1) := by decide +kernel
