theorem dX4_init_0 : decode cX4_init 0 = .ok (.aload_n 0, 1) := by decide +kernel
theorem dX4_init_1 : decode cX4_init 1 = .ok (.invokespecial 3, 3) := by decide +kernel
theorem dX4_init_4 : decode cX4_init 4 = .ok (.aload_n 0, 1) := by decide +kernel
theorem dX4_init_5 : decode cX4_init 5 = .ok (.bipush 64, 2) := by decide +kernel
theorem dX4_init_7 : decode cX4_init 7 = .ok (.newarray .int, 2) := by decide +kernel
theorem dX4_init_9 : decode cX4_init 9 = .ok (.putfield 9, 3) := by decide +kernel
theorem dX4_init_12 : decode cX4_init 12 = .ok (.aload_n 0, 1) := by decide +kernel
theorem dX4_init_13 : decode cX4_init 13 = .ok (.bipush 6, 2) := by decide +kernel
theorem dX4_init_15 : decode cX4_init 15 = .ok (.anewarray 13, 3) := by decide +kernel
theorem dX4_init_18 : decode cX4_init 18 = .ok (.putfield 15, 3) := by decide +kernel
theorem dX4_init_21 : decode cX4_init 21 = .ok (.aload_n 0, 1) := by decide +kernel
theorem dX4_init_22 : decode cX4_init 22 = .ok (.bipush 40, 2) := by decide +kernel
theorem dX4_init_24 : decode cX4_init 24 = .ok (.anewarray 19, 3) := by decide +kernel
theorem dX4_init_27 : decode cX4_init 27 = .ok (.putfield 21, 3) := by decide +kernel
theorem dX4_init_30 : decode cX4_init 30 = .ok (.aload_n 0, 1) := by decide +kernel
theorem dX4_init_31 : decode cX4_init 31 = .ok (.new 25, 3) := by decide +kernel
theorem dX4_init_34 : decode cX4_init 34 = .ok (.dup, 1) := by decide +kernel
theorem dX4_init_35 : decode cX4_init 35 = .ok (.invokespecial 27, 3) := by decide +kernel
theorem dX4_init_38 : decode cX4_init 38 = .ok (.putfield 28, 3) := by decide +kernel
theorem dX4_init_41 : decode cX4_init 41 = .ok (.aload_n 0, 1) := by decide +kernel
theorem dX4_init_42 : decode cX4_init 42 = .ok (.new 25, 3) := by decide +kernel
theorem dX4_init_45 : decode cX4_init 45 = .ok (.dup, 1) := by decide +kernel
theorem dX4_init_46 : decode cX4_init 46 = .ok (.invokespecial 27, 3) := by decide +kernel
theorem dX4_init_49 : decode cX4_init 49 = .ok (.putfield 32, 3) := by decide +kernel
theorem dX4_init_52 : decode cX4_init 52 = .ok (.aload_n 0, 1) := by decide +kernel
theorem dX4_init_53 : decode cX4_init 53 = .ok (.iconst 0, 1) := by decide +kernel
theorem dX4_init_54 : decode cX4_init 54 = .ok (.putfield 35, 3) := by decide +kernel
theorem dX4_init_57 : decode cX4_init 57 = .ok (.aload_n 0, 1) := by decide +kernel
theorem dX4_init_58 : decode cX4_init 58 = .ok (.iconst 0, 1) := by decide +kernel
theorem dX4_init_59 : decode cX4_init 59 = .ok (.putfield 39, 3) := by decide +kernel
theorem dX4_init_62 : decode cX4_init 62 = .ok (.aload_n 0, 1) := by decide +kernel
theorem dX4_init_63 : decode cX4_init 63 = .ok (.iconst 0, 1) := by decide +kernel
theorem dX4_init_64 : decode cX4_init 64 = .ok (.putfield 42, 3) := by decide +kernel
theorem dX4_init_67 : decode cX4_init 67 = .ok (.aload_n 0, 1) := by decide +kernel
theorem dX4_init_68 : decode cX4_init 68 = .ok (.bipush 30, 2) := by decide +kernel
theorem dX4_init_70 : decode cX4_init 70 = .ok (.putfield 45, 3) := by decide +kernel
theorem dX4_init_73 : decode cX4_init 73 = .ok (.aload_n 0, 1) := by decide +kernel
theorem dX4_init_74 : decode cX4_init 74 = .ok (.iconst (-1), 1) := by decide +kernel
theorem dX4_init_75 : decode cX4_init 75 = .ok (.putfield 48, 3) := by decide +kernel
theorem dX4_init_78 : decode cX4_init 78 = .ok (.return_, 1) := by decide +kernel
theorem dX4_place_0 : decode cX4_place 0 = .ok (.aload_n 0, 1) := by decide +kernel
theorem dX4_place_1 : decode cX4_place 1 = .ok (.getfield 35, 3) := by decide +kernel
theorem dX4_place_4 : decode cX4_place 4 = .ok (.bipush 8, 2) := by decide +kernel
theorem dX4_place_6 : decode cX4_place 6 = .ok (.if_icmp .lt 5, 3) := by decide +kernel
theorem dX4_place_9 : decode cX4_place 9 = .ok (.iconst (-1), 1) := by decide +kernel
theorem dX4_place_10 : decode cX4_place 10 = .ok (.ireturn, 1) := by decide +kernel
theorem dX4_place_11 : decode cX4_place 11 = .ok (.aload_n 0, 1) := by decide +kernel
theorem dX4_place_12 : decode cX4_place 12 = .ok (.dup, 1) := by decide +kernel
theorem dX4_place_13 : decode cX4_place 13 = .ok (.getfield 35, 3) := by decide +kernel
theorem dX4_place_16 : decode cX4_place 16 = .ok (.iconst 1, 1) := by decide +kernel
theorem dX4_place_17 : decode cX4_place 17 = .ok (.iadd, 1) := by decide +kernel
theorem dX4_place_18 : decode cX4_place 18 = .ok (.putfield 35, 3) := by decide +kernel
theorem dX4_place_21 : decode cX4_place 21 = .ok (.aload_n 0, 1) := by decide +kernel
theorem dX4_place_22 : decode cX4_place 22 = .ok (.getfield 35, 3) := by decide +kernel
theorem dX4_place_25 : decode cX4_place 25 = .ok (.iconst 1, 1) := by decide +kernel
theorem dX4_place_26 : decode cX4_place 26 = .ok (.isub, 1) := by decide +kernel
theorem dX4_place_27 : decode cX4_place 27 = .ok (.ireturn, 1) := by decide +kernel
theorem dX4_road_0 : decode cX4_road 0 = .ok (.aload_n 0, 1) := by decide +kernel
theorem dX4_road_1 : decode cX4_road 1 = .ok (.iload_n 1, 1) := by decide +kernel
theorem dX4_road_2 : decode cX4_road 2 = .ok (.invokevirtual 51, 3) := by decide +kernel
theorem dX4_road_5 : decode cX4_road 5 = .ok (.ifCond .eq 27, 3) := by decide +kernel
theorem dX4_road_8 : decode cX4_road 8 = .ok (.aload_n 0, 1) := by decide +kernel
theorem dX4_road_9 : decode cX4_road 9 = .ok (.iload_n 2, 1) := by decide +kernel
theorem dX4_road_10 : decode cX4_road 10 = .ok (.invokevirtual 51, 3) := by decide +kernel
theorem dX4_road_13 : decode cX4_road 13 = .ok (.ifCond .eq 19, 3) := by decide +kernel
theorem dX4_road_16 : decode cX4_road 16 = .ok (.iload_n 1, 1) := by decide +kernel
theorem dX4_road_17 : decode cX4_road 17 = .ok (.iload_n 2, 1) := by decide +kernel
theorem dX4_road_18 : decode cX4_road 18 = .ok (.if_icmp .eq 14, 3) := by decide +kernel
theorem dX4_road_21 : decode cX4_road 21 = .ok (.iload_n 3, 1) := by decide +kernel
theorem dX4_road_22 : decode cX4_road 22 = .ok (.ifCond .lt 10, 3) := by decide +kernel
theorem dX4_road_25 : decode cX4_road 25 = .ok (.iload_n 3, 1) := by decide +kernel
theorem dX4_road_26 : decode cX4_road 26 = .ok (.sipush 600, 3) := by decide +kernel
theorem dX4_road_29 : decode cX4_road 29 = .ok (.if_icmp .le 5, 3) := by decide +kernel
theorem dX4_road_32 : decode cX4_road 32 = .ok (.iconst 0, 1) := by decide +kernel
theorem dX4_road_33 : decode cX4_road 33 = .ok (.ireturn, 1) := by decide +kernel
theorem dX4_road_34 : decode cX4_road 34 = .ok (.aload_n 0, 1) := by decide +kernel
theorem dX4_road_35 : decode cX4_road 35 = .ok (.getfield 9, 3) := by decide +kernel
theorem dX4_road_38 : decode cX4_road 38 = .ok (.iload_n 1, 1) := by decide +kernel
theorem dX4_road_39 : decode cX4_road 39 = .ok (.bipush 8, 2) := by decide +kernel
theorem dX4_road_41 : decode cX4_road 41 = .ok (.imul, 1) := by decide +kernel
theorem dX4_road_42 : decode cX4_road 42 = .ok (.iload_n 2, 1) := by decide +kernel
theorem dX4_road_43 : decode cX4_road 43 = .ok (.iadd, 1) := by decide +kernel
theorem dX4_road_44 : decode cX4_road 44 = .ok (.iload_n 3, 1) := by decide +kernel
theorem dX4_road_45 : decode cX4_road 45 = .ok (.iastore, 1) := by decide +kernel
theorem dX4_road_46 : decode cX4_road 46 = .ok (.aload_n 0, 1) := by decide +kernel
theorem dX4_road_47 : decode cX4_road 47 = .ok (.getfield 9, 3) := by decide +kernel
theorem dX4_road_50 : decode cX4_road 50 = .ok (.iload_n 2, 1) := by decide +kernel
theorem dX4_road_51 : decode cX4_road 51 = .ok (.bipush 8, 2) := by decide +kernel
theorem dX4_road_53 : decode cX4_road 53 = .ok (.imul, 1) := by decide +kernel
theorem dX4_road_54 : decode cX4_road 54 = .ok (.iload_n 1, 1) := by decide +kernel
theorem dX4_road_55 : decode cX4_road 55 = .ok (.iadd, 1) := by decide +kernel
theorem dX4_road_56 : decode cX4_road 56 = .ok (.iload_n 3, 1) := by decide +kernel
theorem dX4_road_57 : decode cX4_road 57 = .ok (.iastore, 1) := by decide +kernel
theorem dX4_road_58 : decode cX4_road 58 = .ok (.iconst 0, 1) := by decide +kernel
theorem dX4_road_59 : decode cX4_road 59 = .ok (.istore 4, 2) := by decide +kernel
theorem dX4_road_61 : decode cX4_road 61 = .ok (.iload 4, 2) := by decide +kernel
theorem dX4_road_63 : decode cX4_road 63 = .ok (.aload_n 0, 1) := by decide +kernel
theorem dX4_road_64 : decode cX4_road 64 = .ok (.getfield 39, 3) := by decide +kernel
theorem dX4_road_67 : decode cX4_road 67 = .ok (.if_icmp .ge 28, 3) := by decide +kernel
theorem dX4_road_70 : decode cX4_road 70 = .ok (.aload_n 0, 1) := by decide +kernel
theorem dX4_road_71 : decode cX4_road 71 = .ok (.iload 4, 2) := by decide +kernel
theorem dX4_road_73 : decode cX4_road 73 = .ok (.invokevirtual 55, 3) := by decide +kernel
theorem dX4_road_76 : decode cX4_road 76 = .ok (.astore 5, 2) := by decide +kernel
theorem dX4_road_78 : decode cX4_road 78 = .ok (.aload 5, 2) := by decide +kernel
theorem dX4_road_80 : decode cX4_road 80 = .ok (.ifnull 9, 3) := by decide +kernel
theorem dX4_road_83 : decode cX4_road 83 = .ok (.aload_n 0, 1) := by decide +kernel
theorem dX4_road_84 : decode cX4_road 84 = .ok (.aload 5, 2) := by decide +kernel
theorem dX4_road_86 : decode cX4_road 86 = .ok (.invokevirtual 59, 3) := by decide +kernel
theorem dX4_road_89 : decode cX4_road 89 = .ok (.iinc 4 1, 3) := by decide +kernel
theorem dX4_road_92 : decode cX4_road 92 = .ok (.goto (-31), 3) := by decide +kernel
theorem dX4_road_95 : decode cX4_road 95 = .ok (.iconst 1, 1) := by decide +kernel
theorem dX4_road_96 : decode cX4_road 96 = .ok (.ireturn, 1) := by decide +kernel
theorem dX4_rider_0 : decode cX4_rider 0 = .ok (.aload_n 0, 1) := by decide +kernel
theorem dX4_rider_1 : decode cX4_rider 1 = .ok (.getfield 39, 3) := by decide +kernel
theorem dX4_rider_4 : decode cX4_rider 4 = .ok (.bipush 6, 2) := by decide +kernel
theorem dX4_rider_6 : decode cX4_rider 6 = .ok (.if_icmp .ge 30, 3) := by decide +kernel
theorem dX4_rider_9 : decode cX4_rider 9 = .ok (.aload_n 0, 1) := by decide +kernel
theorem dX4_rider_10 : decode cX4_rider 10 = .ok (.iload_n 1, 1) := by decide +kernel
theorem dX4_rider_11 : decode cX4_rider 11 = .ok (.invokevirtual 51, 3) := by decide +kernel
theorem dX4_rider_14 : decode cX4_rider 14 = .ok (.ifCond .eq 22, 3) := by decide +kernel
theorem dX4_rider_17 : decode cX4_rider 17 = .ok (.iload_n 2, 1) := by decide +kernel
theorem dX4_rider_18 : decode cX4_rider 18 = .ok (.aload_n 0, 1) := by decide +kernel
theorem dX4_rider_19 : decode cX4_rider 19 = .ok (.getfield 35, 3) := by decide +kernel
theorem dX4_rider_22 : decode cX4_rider 22 = .ok (.invokestatic 63, 3) := by decide +kernel
theorem dX4_rider_25 : decode cX4_rider 25 = .ok (.ifCond .eq 11, 3) := by decide +kernel
theorem dX4_rider_28 : decode cX4_rider 28 = .ok (.iload_n 2, 1) := by decide +kernel
theorem dX4_rider_29 : decode cX4_rider 29 = .ok (.iload_n 1, 1) := by decide +kernel
theorem dX4_rider_30 : decode cX4_rider 30 = .ok (.invokestatic 67, 3) := by decide +kernel
theorem dX4_rider_33 : decode cX4_rider 33 = .ok (.ifCond .ne 5, 3) := by decide +kernel
theorem dX4_rider_36 : decode cX4_rider 36 = .ok (.iconst (-1), 1) := by decide +kernel
theorem dX4_rider_37 : decode cX4_rider 37 = .ok (.ireturn, 1) := by decide +kernel
theorem dX4_rider_38 : decode cX4_rider 38 = .ok (.iload_n 3, 1) := by decide +kernel
theorem dX4_rider_39 : decode cX4_rider 39 = .ok (.invokestatic 70, 3) := by decide +kernel
theorem dX4_rider_42 : decode cX4_rider 42 = .ok (.ifCond .eq 26, 3) := by decide +kernel
theorem dX4_rider_45 : decode cX4_rider 45 = .ok (.iload 4, 2) := by decide +kernel
theorem dX4_rider_47 : decode cX4_rider 47 = .ok (.invokestatic 70, 3) := by decide +kernel
theorem dX4_rider_50 : decode cX4_rider 50 = .ok (.ifCond .eq 18, 3) := by decide +kernel
theorem dX4_rider_53 : decode cX4_rider 53 = .ok (.iload_n 3, 1) := by decide +kernel
theorem dX4_rider_54 : decode cX4_rider 54 = .ok (.iload 4, 2) := by decide +kernel
theorem dX4_rider_56 : decode cX4_rider 56 = .ok (.if_icmp .gt 12, 3) := by decide +kernel
theorem dX4_rider_59 : decode cX4_rider 59 = .ok (.iload 5, 2) := by decide +kernel
theorem dX4_rider_61 : decode cX4_rider 61 = .ok (.iconst 4, 1) := by decide +kernel
theorem dX4_rider_62 : decode cX4_rider 62 = .ok (.invokestatic 63, 3) := by decide +kernel
theorem dX4_rider_65 : decode cX4_rider 65 = .ok (.ifCond .ne 5, 3) := by decide +kernel
theorem dX4_rider_68 : decode cX4_rider 68 = .ok (.iconst (-1), 1) := by decide +kernel
theorem dX4_rider_69 : decode cX4_rider 69 = .ok (.ireturn, 1) := by decide +kernel
theorem dX4_rider_70 : decode cX4_rider 70 = .ok (.new 13, 3) := by decide +kernel
theorem dX4_rider_73 : decode cX4_rider 73 = .ok (.dup, 1) := by decide +kernel
theorem dX4_rider_74 : decode cX4_rider 74 = .ok (.iload_n 1, 1) := by decide +kernel
theorem dX4_rider_75 : decode cX4_rider 75 = .ok (.iload_n 2, 1) := by decide +kernel
theorem dX4_rider_76 : decode cX4_rider 76 = .ok (.iload_n 3, 1) := by decide +kernel
theorem dX4_rider_77 : decode cX4_rider 77 = .ok (.iload 4, 2) := by decide +kernel
theorem dX4_rider_79 : decode cX4_rider 79 = .ok (.iload 5, 2) := by decide +kernel
theorem dX4_rider_81 : decode cX4_rider 81 = .ok (.invokespecial 73, 3) := by decide +kernel
theorem dX4_rider_84 : decode cX4_rider 84 = .ok (.astore 6, 2) := by decide +kernel
theorem dX4_rider_86 : decode cX4_rider 86 = .ok (.aload_n 0, 1) := by decide +kernel
theorem dX4_rider_87 : decode cX4_rider 87 = .ok (.aload 6, 2) := by decide +kernel
theorem dX4_rider_89 : decode cX4_rider 89 = .ok (.invokevirtual 59, 3) := by decide +kernel
theorem dX4_rider_92 : decode cX4_rider 92 = .ok (.aload_n 0, 1) := by decide +kernel
theorem dX4_rider_93 : decode cX4_rider 93 = .ok (.getfield 15, 3) := by decide +kernel
theorem dX4_rider_96 : decode cX4_rider 96 = .ok (.aload_n 0, 1) := by decide +kernel
theorem dX4_rider_97 : decode cX4_rider 97 = .ok (.getfield 39, 3) := by decide +kernel
theorem dX4_rider_100 : decode cX4_rider 100 = .ok (.aload 6, 2) := by decide +kernel
theorem dX4_rider_102 : decode cX4_rider 102 = .ok (.aastore, 1) := by decide +kernel
theorem dX4_rider_103 : decode cX4_rider 103 = .ok (.aload_n 0, 1) := by decide +kernel
theorem dX4_rider_104 : decode cX4_rider 104 = .ok (.dup, 1) := by decide +kernel
theorem dX4_rider_105 : decode cX4_rider 105 = .ok (.getfield 39, 3) := by decide +kernel
theorem dX4_rider_108 : decode cX4_rider 108 = .ok (.iconst 1, 1) := by decide +kernel
theorem dX4_rider_109 : decode cX4_rider 109 = .ok (.iadd, 1) := by decide +kernel
theorem dX4_rider_110 : decode cX4_rider 110 = .ok (.putfield 39, 3) := by decide +kernel
theorem dX4_rider_113 : decode cX4_rider 113 = .ok (.aload_n 0, 1) := by decide +kernel
theorem dX4_rider_114 : decode cX4_rider 114 = .ok (.getfield 39, 3) := by decide +kernel
theorem dX4_rider_117 : decode cX4_rider 117 = .ok (.iconst 1, 1) := by decide +kernel
theorem dX4_rider_118 : decode cX4_rider 118 = .ok (.isub, 1) := by decide +kernel
theorem dX4_rider_119 : decode cX4_rider 119 = .ok (.ireturn, 1) := by decide +kernel
theorem dX4_rest_0 : decode cX4_rest 0 = .ok (.iload_n 1, 1) := by decide +kernel
theorem dX4_rest_1 : decode cX4_rest 1 = .ok (.ifCond .lt 10, 3) := by decide +kernel
theorem dX4_rest_4 : decode cX4_rest 4 = .ok (.iload_n 1, 1) := by decide +kernel
theorem dX4_rest_5 : decode cX4_rest 5 = .ok (.sipush 600, 3) := by decide +kernel
theorem dX4_rest_8 : decode cX4_rest 8 = .ok (.if_icmp .le 5, 3) := by decide +kernel
theorem dX4_rest_11 : decode cX4_rest 11 = .ok (.iconst (-1), 1) := by decide +kernel
theorem dX4_rest_12 : decode cX4_rest 12 = .ok (.ireturn, 1) := by decide +kernel
theorem dX4_rest_13 : decode cX4_rest 13 = .ok (.aload_n 0, 1) := by decide +kernel
theorem dX4_rest_14 : decode cX4_rest 14 = .ok (.getfield 45, 3) := by decide +kernel
theorem dX4_rest_17 : decode cX4_rest 17 = .ok (.istore_n 2, 1) := by decide +kernel
theorem dX4_rest_18 : decode cX4_rest 18 = .ok (.aload_n 0, 1) := by decide +kernel
theorem dX4_rest_19 : decode cX4_rest 19 = .ok (.iload_n 1, 1) := by decide +kernel
theorem dX4_rest_20 : decode cX4_rest 20 = .ok (.putfield 45, 3) := by decide +kernel
theorem dX4_rest_23 : decode cX4_rest 23 = .ok (.iload_n 2, 1) := by decide +kernel
theorem dX4_rest_24 : decode cX4_rest 24 = .ok (.ireturn, 1) := by decide +kernel
theorem dX4_count_0 : decode cX4_count 0 = .ok (.iload_n 1, 1) := by decide +kernel
theorem dX4_count_1 : decode cX4_count 1 = .ok (.tableswitch 60 0 5 #[39, 44, 49, 54, 54, 54], 39) := by decide +kernel
theorem dX4_count_40 : decode cX4_count 40 = .ok (.aload_n 0, 1) := by decide +kernel
theorem dX4_count_41 : decode cX4_count 41 = .ok (.getfield 35, 3) := by decide +kernel
theorem dX4_count_44 : decode cX4_count 44 = .ok (.ireturn, 1) := by decide +kernel
theorem dX4_count_45 : decode cX4_count 45 = .ok (.aload_n 0, 1) := by decide +kernel
theorem dX4_count_46 : decode cX4_count 46 = .ok (.getfield 39, 3) := by decide +kernel
theorem dX4_count_49 : decode cX4_count 49 = .ok (.ireturn, 1) := by decide +kernel
theorem dX4_count_50 : decode cX4_count 50 = .ok (.aload_n 0, 1) := by decide +kernel
theorem dX4_count_51 : decode cX4_count 51 = .ok (.getfield 42, 3) := by decide +kernel
theorem dX4_count_54 : decode cX4_count 54 = .ok (.ireturn, 1) := by decide +kernel
theorem dX4_count_55 : decode cX4_count 55 = .ok (.aload_n 0, 1) := by decide +kernel
theorem dX4_count_56 : decode cX4_count 56 = .ok (.iload_n 1, 1) := by decide +kernel
theorem dX4_count_57 : decode cX4_count 57 = .ok (.invokevirtual 76, 3) := by decide +kernel
theorem dX4_count_60 : decode cX4_count 60 = .ok (.ireturn, 1) := by decide +kernel
theorem dX4_count_61 : decode cX4_count 61 = .ok (.iconst (-1), 1) := by decide +kernel
theorem dX4_count_62 : decode cX4_count 62 = .ok (.ireturn, 1) := by decide +kernel
theorem dX4_way_0 : decode cX4_way 0 = .ok (.aload_n 0, 1) := by decide +kernel
theorem dX4_way_1 : decode cX4_way 1 = .ok (.iload_n 1, 1) := by decide +kernel
theorem dX4_way_2 : decode cX4_way 2 = .ok (.invokevirtual 55, 3) := by decide +kernel
theorem dX4_way_5 : decode cX4_way 5 = .ok (.astore 4, 2) := by decide +kernel
theorem dX4_way_7 : decode cX4_way 7 = .ok (.aload 4, 2) := by decide +kernel
theorem dX4_way_9 : decode cX4_way 9 = .ok (.ifnonnull 7, 3) := by decide +kernel
theorem dX4_way_12 : decode cX4_way 12 = .ok (.iconst (-1), 1) := by decide +kernel
theorem dX4_way_13 : decode cX4_way 13 = .ok (.goto 11, 3) := by decide +kernel
theorem dX4_way_16 : decode cX4_way 16 = .ok (.aload_n 0, 1) := by decide +kernel
theorem dX4_way_17 : decode cX4_way 17 = .ok (.aload 4, 2) := by decide +kernel
theorem dX4_way_19 : decode cX4_way 19 = .ok (.iload_n 2, 1) := by decide +kernel
theorem dX4_way_20 : decode cX4_way 20 = .ok (.iload_n 3, 1) := by decide +kernel
theorem dX4_way_21 : decode cX4_way 21 = .ok (.invokevirtual 80, 3) := by decide +kernel
theorem dX4_way_24 : decode cX4_way 24 = .ok (.ireturn, 1) := by decide +kernel
theorem dX4_of_0 : decode cX4_of 0 = .ok (.aload_n 0, 1) := by decide +kernel
theorem dX4_of_1 : decode cX4_of 1 = .ok (.iload_n 1, 1) := by decide +kernel
theorem dX4_of_2 : decode cX4_of 2 = .ok (.invokevirtual 55, 3) := by decide +kernel
theorem dX4_of_5 : decode cX4_of 5 = .ok (.astore_n 3, 1) := by decide +kernel
theorem dX4_of_6 : decode cX4_of 6 = .ok (.aload_n 3, 1) := by decide +kernel
theorem dX4_of_7 : decode cX4_of 7 = .ok (.ifnonnull 13, 3) := by decide +kernel
theorem dX4_of_10 : decode cX4_of 10 = .ok (.new 84, 3) := by decide +kernel
theorem dX4_of_13 : decode cX4_of 13 = .ok (.dup, 1) := by decide +kernel
theorem dX4_of_14 : decode cX4_of 14 = .ok (.ldc 86, 2) := by decide +kernel
theorem dX4_of_16 : decode cX4_of 16 = .ok (.invokespecial 88, 3) := by decide +kernel
theorem dX4_of_19 : decode cX4_of 19 = .ok (.athrow, 1) := by decide +kernel
theorem dX4_of_20 : decode cX4_of 20 = .ok (.iload_n 2, 1) := by decide +kernel
theorem dX4_of_21 : decode cX4_of 21 = .ok (.tableswitch 89 0 6 #[43, 48, 53, 69, 74, 79, 84], 43) := by decide +kernel
theorem dX4_of_64 : decode cX4_of 64 = .ok (.aload_n 3, 1) := by decide +kernel
theorem dX4_of_65 : decode cX4_of 65 = .ok (.getfield 91, 3) := by decide +kernel
theorem dX4_of_68 : decode cX4_of 68 = .ok (.ireturn, 1) := by decide +kernel
theorem dX4_of_69 : decode cX4_of 69 = .ok (.aload_n 3, 1) := by decide +kernel
theorem dX4_of_70 : decode cX4_of 70 = .ok (.getfield 94, 3) := by decide +kernel
theorem dX4_of_73 : decode cX4_of 73 = .ok (.ireturn, 1) := by decide +kernel
theorem dX4_of_74 : decode cX4_of 74 = .ok (.aload_n 3, 1) := by decide +kernel
theorem dX4_of_75 : decode cX4_of 75 = .ok (.getfield 97, 3) := by decide +kernel
theorem dX4_of_78 : decode cX4_of 78 = .ok (.ifCond .eq 7, 3) := by decide +kernel
theorem dX4_of_81 : decode cX4_of 81 = .ok (.iconst (-1), 1) := by decide +kernel
theorem dX4_of_82 : decode cX4_of 82 = .ok (.goto 7, 3) := by decide +kernel
theorem dX4_of_85 : decode cX4_of 85 = .ok (.aload_n 3, 1) := by decide +kernel
theorem dX4_of_86 : decode cX4_of 86 = .ok (.getfield 101, 3) := by decide +kernel
theorem dX4_of_89 : decode cX4_of 89 = .ok (.ireturn, 1) := by decide +kernel
theorem dX4_of_90 : decode cX4_of 90 = .ok (.aload_n 3, 1) := by decide +kernel
theorem dX4_of_91 : decode cX4_of 91 = .ok (.getfield 104, 3) := by decide +kernel
theorem dX4_of_94 : decode cX4_of 94 = .ok (.ireturn, 1) := by decide +kernel
theorem dX4_of_95 : decode cX4_of 95 = .ok (.aload_n 3, 1) := by decide +kernel
theorem dX4_of_96 : decode cX4_of 96 = .ok (.getfield 107, 3) := by decide +kernel
theorem dX4_of_99 : decode cX4_of 99 = .ok (.ireturn, 1) := by decide +kernel
theorem dX4_of_100 : decode cX4_of 100 = .ok (.aload_n 3, 1) := by decide +kernel
theorem dX4_of_101 : decode cX4_of 101 = .ok (.getfield 110, 3) := by decide +kernel
theorem dX4_of_104 : decode cX4_of 104 = .ok (.ireturn, 1) := by decide +kernel
theorem dX4_of_105 : decode cX4_of 105 = .ok (.aload_n 3, 1) := by decide +kernel
theorem dX4_of_106 : decode cX4_of 106 = .ok (.getfield 113, 3) := by decide +kernel
theorem dX4_of_109 : decode cX4_of 109 = .ok (.ireturn, 1) := by decide +kernel
theorem dX4_of_110 : decode cX4_of 110 = .ok (.new 84, 3) := by decide +kernel
theorem dX4_of_113 : decode cX4_of 113 = .ok (.dup, 1) := by decide +kernel
theorem dX4_of_114 : decode cX4_of 114 = .ok (.ldc 116, 2) := by decide +kernel
theorem dX4_of_116 : decode cX4_of 116 = .ok (.invokespecial 88, 3) := by decide +kernel
theorem dX4_of_119 : decode cX4_of 119 = .ok (.athrow, 1) := by decide +kernel
theorem dX4_duty_0 : decode cX4_duty 0 = .ok (.iload_n 1, 1) := by decide +kernel
theorem dX4_duty_1 : decode cX4_duty 1 = .ok (.invokestatic 70, 3) := by decide +kernel
theorem dX4_duty_4 : decode cX4_duty 4 = .ok (.ifCond .eq 10, 3) := by decide +kernel
theorem dX4_duty_7 : decode cX4_duty 7 = .ok (.iload_n 2, 1) := by decide +kernel
theorem dX4_duty_8 : decode cX4_duty 8 = .ok (.invokestatic 118, 3) := by decide +kernel
theorem dX4_duty_11 : decode cX4_duty 11 = .ok (.ifCond .ne 5, 3) := by decide +kernel
theorem dX4_duty_14 : decode cX4_duty 14 = .ok (.iconst (-1), 1) := by decide +kernel
theorem dX4_duty_15 : decode cX4_duty 15 = .ok (.ireturn, 1) := by decide +kernel
theorem dX4_duty_16 : decode cX4_duty 16 = .ok (.iconst 0, 1) := by decide +kernel
theorem dX4_duty_17 : decode cX4_duty 17 = .ok (.istore_n 3, 1) := by decide +kernel
theorem dX4_duty_18 : decode cX4_duty 18 = .ok (.iconst 0, 1) := by decide +kernel
theorem dX4_duty_19 : decode cX4_duty 19 = .ok (.istore 4, 2) := by decide +kernel
theorem dX4_duty_21 : decode cX4_duty 21 = .ok (.iload 4, 2) := by decide +kernel
theorem dX4_duty_23 : decode cX4_duty 23 = .ok (.aload_n 0, 1) := by decide +kernel
theorem dX4_duty_24 : decode cX4_duty 24 = .ok (.getfield 39, 3) := by decide +kernel
theorem dX4_duty_27 : decode cX4_duty 27 = .ok (.if_icmp .ge 43, 3) := by decide +kernel
theorem dX4_duty_30 : decode cX4_duty 30 = .ok (.aload_n 0, 1) := by decide +kernel
theorem dX4_duty_31 : decode cX4_duty 31 = .ok (.iload 4, 2) := by decide +kernel
theorem dX4_duty_33 : decode cX4_duty 33 = .ok (.invokevirtual 55, 3) := by decide +kernel
theorem dX4_duty_36 : decode cX4_duty 36 = .ok (.astore 5, 2) := by decide +kernel
theorem dX4_duty_38 : decode cX4_duty 38 = .ok (.aload 5, 2) := by decide +kernel
theorem dX4_duty_40 : decode cX4_duty 40 = .ok (.ifnull 24, 3) := by decide +kernel
theorem dX4_duty_43 : decode cX4_duty 43 = .ok (.aload 5, 2) := by decide +kernel
theorem dX4_duty_45 : decode cX4_duty 45 = .ok (.iload_n 2, 1) := by decide +kernel
theorem dX4_duty_46 : decode cX4_duty 46 = .ok (.invokevirtual 121, 3) := by decide +kernel
theorem dX4_duty_49 : decode cX4_duty 49 = .ok (.ifCond .eq 15, 3) := by decide +kernel
theorem dX4_duty_52 : decode cX4_duty 52 = .ok (.aload 5, 2) := by decide +kernel
theorem dX4_duty_54 : decode cX4_duty 54 = .ok (.iload_n 1, 1) := by decide +kernel
theorem dX4_duty_55 : decode cX4_duty 55 = .ok (.invokevirtual 124, 3) := by decide +kernel
theorem dX4_duty_58 : decode cX4_duty 58 = .ok (.ifCond .eq 6, 3) := by decide +kernel
theorem dX4_duty_61 : decode cX4_duty 61 = .ok (.iinc 3 1, 3) := by decide +kernel
theorem dX4_duty_64 : decode cX4_duty 64 = .ok (.iinc 4 1, 3) := by decide +kernel
theorem dX4_duty_67 : decode cX4_duty 67 = .ok (.goto (-46), 3) := by decide +kernel
theorem dX4_duty_70 : decode cX4_duty 70 = .ok (.iload_n 3, 1) := by decide +kernel
theorem dX4_duty_71 : decode cX4_duty 71 = .ok (.ireturn, 1) := by decide +kernel
theorem dX4_bare_0 : decode cX4_bare 0 = .ok (.iload_n 1, 1) := by decide +kernel
theorem dX4_bare_1 : decode cX4_bare 1 = .ok (.invokestatic 70, 3) := by decide +kernel
theorem dX4_bare_4 : decode cX4_bare 4 = .ok (.ifCond .eq 10, 3) := by decide +kernel
theorem dX4_bare_7 : decode cX4_bare 7 = .ok (.iload_n 2, 1) := by decide +kernel
theorem dX4_bare_8 : decode cX4_bare 8 = .ok (.invokestatic 118, 3) := by decide +kernel
theorem dX4_bare_11 : decode cX4_bare 11 = .ok (.ifCond .ne 5, 3) := by decide +kernel
theorem dX4_bare_14 : decode cX4_bare 14 = .ok (.iconst (-1), 1) := by decide +kernel
theorem dX4_bare_15 : decode cX4_bare 15 = .ok (.ireturn, 1) := by decide +kernel
theorem dX4_bare_16 : decode cX4_bare 16 = .ok (.iload_n 1, 1) := by decide +kernel
theorem dX4_bare_17 : decode cX4_bare 17 = .ok (.istore_n 3, 1) := by decide +kernel
theorem dX4_bare_18 : decode cX4_bare 18 = .ok (.iconst 0, 1) := by decide +kernel
theorem dX4_bare_19 : decode cX4_bare 19 = .ok (.istore 4, 2) := by decide +kernel
theorem dX4_bare_21 : decode cX4_bare 21 = .ok (.iload 4, 2) := by decide +kernel
theorem dX4_bare_23 : decode cX4_bare 23 = .ok (.bipush 6, 2) := by decide +kernel
theorem dX4_bare_25 : decode cX4_bare 25 = .ok (.if_icmp .ge 22, 3) := by decide +kernel
theorem dX4_bare_28 : decode cX4_bare 28 = .ok (.iload_n 3, 1) := by decide +kernel
theorem dX4_bare_29 : decode cX4_bare 29 = .ok (.iconst 1, 1) := by decide +kernel
theorem dX4_bare_30 : decode cX4_bare 30 = .ok (.aload_n 0, 1) := by decide +kernel
theorem dX4_bare_31 : decode cX4_bare 31 = .ok (.iload_n 3, 1) := by decide +kernel
theorem dX4_bare_32 : decode cX4_bare 32 = .ok (.iload_n 2, 1) := by decide +kernel
theorem dX4_bare_33 : decode cX4_bare 33 = .ok (.invokevirtual 127, 3) := by decide +kernel
theorem dX4_bare_36 : decode cX4_bare 36 = .ok (.iadd, 1) := by decide +kernel
theorem dX4_bare_37 : decode cX4_bare 37 = .ok (.invokestatic 131, 3) := by decide +kernel
theorem dX4_bare_40 : decode cX4_bare 40 = .ok (.istore_n 3, 1) := by decide +kernel
theorem dX4_bare_41 : decode cX4_bare 41 = .ok (.iinc 4 1, 3) := by decide +kernel
theorem dX4_bare_44 : decode cX4_bare 44 = .ok (.goto (-23), 3) := by decide +kernel
theorem dX4_bare_47 : decode cX4_bare 47 = .ok (.iload_n 3, 1) := by decide +kernel
theorem dX4_bare_48 : decode cX4_bare 48 = .ok (.invokestatic 70, 3) := by decide +kernel
theorem dX4_bare_51 : decode cX4_bare 51 = .ok (.ifCond .eq 7, 3) := by decide +kernel
theorem dX4_bare_54 : decode cX4_bare 54 = .ok (.iload_n 3, 1) := by decide +kernel
theorem dX4_bare_55 : decode cX4_bare 55 = .ok (.goto 4, 3) := by decide +kernel
theorem dX4_bare_58 : decode cX4_bare 58 = .ok (.iconst (-1), 1) := by decide +kernel
theorem dX4_bare_59 : decode cX4_bare 59 = .ok (.ireturn, 1) := by decide +kernel
theorem dX4_call_0 : decode cX4_call 0 = .ok (.aload_n 0, 1) := by decide +kernel
theorem dX4_call_1 : decode cX4_call 1 = .ok (.getfield 42, 3) := by decide +kernel
theorem dX4_call_4 : decode cX4_call 4 = .ok (.bipush 40, 2) := by decide +kernel
theorem dX4_call_6 : decode cX4_call 6 = .ok (.if_icmp .ge 31, 3) := by decide +kernel
theorem dX4_call_9 : decode cX4_call 9 = .ok (.iload_n 1, 1) := by decide +kernel
theorem dX4_call_10 : decode cX4_call 10 = .ok (.invokestatic 118, 3) := by decide +kernel
theorem dX4_call_13 : decode cX4_call 13 = .ok (.ifCond .eq 24, 3) := by decide +kernel
theorem dX4_call_16 : decode cX4_call 16 = .ok (.aload_n 0, 1) := by decide +kernel
theorem dX4_call_17 : decode cX4_call 17 = .ok (.iload_n 2, 1) := by decide +kernel
theorem dX4_call_18 : decode cX4_call 18 = .ok (.invokevirtual 51, 3) := by decide +kernel
theorem dX4_call_21 : decode cX4_call 21 = .ok (.ifCond .eq 16, 3) := by decide +kernel
theorem dX4_call_24 : decode cX4_call 24 = .ok (.aload_n 0, 1) := by decide +kernel
theorem dX4_call_25 : decode cX4_call 25 = .ok (.iload_n 3, 1) := by decide +kernel
theorem dX4_call_26 : decode cX4_call 26 = .ok (.invokevirtual 51, 3) := by decide +kernel
theorem dX4_call_29 : decode cX4_call 29 = .ok (.ifCond .eq 8, 3) := by decide +kernel
theorem dX4_call_32 : decode cX4_call 32 = .ok (.iload_n 2, 1) := by decide +kernel
theorem dX4_call_33 : decode cX4_call 33 = .ok (.iload_n 3, 1) := by decide +kernel
theorem dX4_call_34 : decode cX4_call 34 = .ok (.if_icmp .ne 5, 3) := by decide +kernel
theorem dX4_call_37 : decode cX4_call 37 = .ok (.iconst (-1), 1) := by decide +kernel
theorem dX4_call_38 : decode cX4_call 38 = .ok (.ireturn, 1) := by decide +kernel
theorem dX4_call_39 : decode cX4_call 39 = .ok (.iload 4, 2) := by decide +kernel
theorem dX4_call_41 : decode cX4_call 41 = .ok (.invokestatic 70, 3) := by decide +kernel
theorem dX4_call_44 : decode cX4_call 44 = .ok (.ifCond .eq 17, 3) := by decide +kernel
theorem dX4_call_47 : decode cX4_call 47 = .ok (.iload 5, 2) := by decide +kernel
theorem dX4_call_49 : decode cX4_call 49 = .ok (.iconst 1, 1) := by decide +kernel
theorem dX4_call_50 : decode cX4_call 50 = .ok (.if_icmp .lt 11, 3) := by decide +kernel
theorem dX4_call_53 : decode cX4_call 53 = .ok (.iload 5, 2) := by decide +kernel
theorem dX4_call_55 : decode cX4_call 55 = .ok (.sipush 2000, 3) := by decide +kernel
theorem dX4_call_58 : decode cX4_call 58 = .ok (.if_icmp .le 5, 3) := by decide +kernel
theorem dX4_call_61 : decode cX4_call 61 = .ok (.iconst (-1), 1) := by decide +kernel
theorem dX4_call_62 : decode cX4_call 62 = .ok (.ireturn, 1) := by decide +kernel
theorem dX4_call_63 : decode cX4_call 63 = .ok (.aload_n 0, 1) := by decide +kernel
theorem dX4_call_64 : decode cX4_call 64 = .ok (.getfield 21, 3) := by decide +kernel
theorem dX4_call_67 : decode cX4_call 67 = .ok (.aload_n 0, 1) := by decide +kernel
theorem dX4_call_68 : decode cX4_call 68 = .ok (.getfield 42, 3) := by decide +kernel
theorem dX4_call_71 : decode cX4_call 71 = .ok (.new 19, 3) := by decide +kernel
theorem dX4_call_74 : decode cX4_call 74 = .ok (.dup, 1) := by decide +kernel
theorem dX4_call_75 : decode cX4_call 75 = .ok (.iload_n 1, 1) := by decide +kernel
theorem dX4_call_76 : decode cX4_call 76 = .ok (.iload_n 2, 1) := by decide +kernel
theorem dX4_call_77 : decode cX4_call 77 = .ok (.iload_n 3, 1) := by decide +kernel
theorem dX4_call_78 : decode cX4_call 78 = .ok (.iload 4, 2) := by decide +kernel
theorem dX4_call_80 : decode cX4_call 80 = .ok (.iload 5, 2) := by decide +kernel
theorem dX4_call_82 : decode cX4_call 82 = .ok (.invokespecial 136, 3) := by decide +kernel
theorem dX4_call_85 : decode cX4_call 85 = .ok (.aastore, 1) := by decide +kernel
theorem dX4_call_86 : decode cX4_call 86 = .ok (.aload_n 0, 1) := by decide +kernel
theorem dX4_call_87 : decode cX4_call 87 = .ok (.dup, 1) := by decide +kernel
theorem dX4_call_88 : decode cX4_call 88 = .ok (.getfield 42, 3) := by decide +kernel
theorem dX4_call_91 : decode cX4_call 91 = .ok (.iconst 1, 1) := by decide +kernel
theorem dX4_call_92 : decode cX4_call 92 = .ok (.iadd, 1) := by decide +kernel
theorem dX4_call_93 : decode cX4_call 93 = .ok (.putfield 42, 3) := by decide +kernel
theorem dX4_call_96 : decode cX4_call 96 = .ok (.aload_n 0, 1) := by decide +kernel
theorem dX4_call_97 : decode cX4_call 97 = .ok (.getfield 42, 3) := by decide +kernel
theorem dX4_call_100 : decode cX4_call 100 = .ok (.iconst 1, 1) := by decide +kernel
theorem dX4_call_101 : decode cX4_call 101 = .ok (.isub, 1) := by decide +kernel
theorem dX4_call_102 : decode cX4_call 102 = .ok (.ireturn, 1) := by decide +kernel
theorem dX4_best_0 : decode cX4_best 0 = .ok (.aload_n 0, 1) := by decide +kernel
theorem dX4_best_1 : decode cX4_best 1 = .ok (.iload_n 1, 1) := by decide +kernel
theorem dX4_best_2 : decode cX4_best 2 = .ok (.invokevirtual 137, 3) := by decide +kernel
theorem dX4_best_5 : decode cX4_best 5 = .ok (.astore_n 2, 1) := by decide +kernel
theorem dX4_best_6 : decode cX4_best 6 = .ok (.aload_n 2, 1) := by decide +kernel
theorem dX4_best_7 : decode cX4_best 7 = .ok (.ifnull 26, 3) := by decide +kernel
theorem dX4_best_10 : decode cX4_best 10 = .ok (.aload_n 2, 1) := by decide +kernel
theorem dX4_best_11 : decode cX4_best 11 = .ok (.getfield 141, 3) := by decide +kernel
theorem dX4_best_14 : decode cX4_best 14 = .ok (.ifCond .ne 19, 3) := by decide +kernel
theorem dX4_best_17 : decode cX4_best 17 = .ok (.aload_n 0, 1) := by decide +kernel
theorem dX4_best_18 : decode cX4_best 18 = .ok (.aload_n 2, 1) := by decide +kernel
theorem dX4_best_19 : decode cX4_best 19 = .ok (.aload_n 2, 1) := by decide +kernel
theorem dX4_best_20 : decode cX4_best 20 = .ok (.getfield 144, 3) := by decide +kernel
theorem dX4_best_23 : decode cX4_best 23 = .ok (.aload_n 2, 1) := by decide +kernel
theorem dX4_best_24 : decode cX4_best 24 = .ok (.getfield 147, 3) := by decide +kernel
theorem dX4_best_27 : decode cX4_best 27 = .ok (.invokevirtual 150, 3) := by decide +kernel
theorem dX4_best_30 : decode cX4_best 30 = .ok (.ifCond .ne 5, 3) := by decide +kernel
theorem dX4_best_33 : decode cX4_best 33 = .ok (.iconst (-1), 1) := by decide +kernel
theorem dX4_best_34 : decode cX4_best 34 = .ok (.ireturn, 1) := by decide +kernel
theorem dX4_best_35 : decode cX4_best 35 = .ok (.aload_n 0, 1) := by decide +kernel
theorem dX4_best_36 : decode cX4_best 36 = .ok (.getfield 32, 3) := by decide +kernel
theorem dX4_best_39 : decode cX4_best 39 = .ok (.invokevirtual 154, 3) := by decide +kernel
theorem dX4_best_42 : decode cX4_best 42 = .ok (.ireturn, 1) := by decide +kernel
theorem dX4_send_0 : decode cX4_send 0 = .ok (.aload_n 0, 1) := by decide +kernel
theorem dX4_send_1 : decode cX4_send 1 = .ok (.iload_n 1, 1) := by decide +kernel
theorem dX4_send_2 : decode cX4_send 2 = .ok (.invokevirtual 137, 3) := by decide +kernel
theorem dX4_send_5 : decode cX4_send 5 = .ok (.astore_n 2, 1) := by decide +kernel
theorem dX4_send_6 : decode cX4_send 6 = .ok (.aload_n 2, 1) := by decide +kernel
theorem dX4_send_7 : decode cX4_send 7 = .ok (.ifnull 26, 3) := by decide +kernel
theorem dX4_send_10 : decode cX4_send 10 = .ok (.aload_n 2, 1) := by decide +kernel
theorem dX4_send_11 : decode cX4_send 11 = .ok (.getfield 141, 3) := by decide +kernel
theorem dX4_send_14 : decode cX4_send 14 = .ok (.ifCond .ne 19, 3) := by decide +kernel
theorem dX4_send_17 : decode cX4_send 17 = .ok (.aload_n 0, 1) := by decide +kernel
theorem dX4_send_18 : decode cX4_send 18 = .ok (.aload_n 2, 1) := by decide +kernel
theorem dX4_send_19 : decode cX4_send 19 = .ok (.aload_n 2, 1) := by decide +kernel
theorem dX4_send_20 : decode cX4_send 20 = .ok (.getfield 144, 3) := by decide +kernel
theorem dX4_send_23 : decode cX4_send 23 = .ok (.aload_n 2, 1) := by decide +kernel
theorem dX4_send_24 : decode cX4_send 24 = .ok (.getfield 147, 3) := by decide +kernel
theorem dX4_send_27 : decode cX4_send 27 = .ok (.invokevirtual 150, 3) := by decide +kernel
theorem dX4_send_30 : decode cX4_send 30 = .ok (.ifCond .ne 5, 3) := by decide +kernel
theorem dX4_send_33 : decode cX4_send 33 = .ok (.iconst (-1), 1) := by decide +kernel
theorem dX4_send_34 : decode cX4_send 34 = .ok (.ireturn, 1) := by decide +kernel
theorem dX4_send_35 : decode cX4_send 35 = .ok (.aload_n 2, 1) := by decide +kernel
theorem dX4_send_36 : decode cX4_send 36 = .ok (.iconst 1, 1) := by decide +kernel
theorem dX4_send_37 : decode cX4_send 37 = .ok (.putfield 141, 3) := by decide +kernel
theorem dX4_send_40 : decode cX4_send 40 = .ok (.aload_n 0, 1) := by decide +kernel
theorem dX4_send_41 : decode cX4_send 41 = .ok (.iload_n 1, 1) := by decide +kernel
theorem dX4_send_42 : decode cX4_send 42 = .ok (.putfield 48, 3) := by decide +kernel
theorem dX4_send_45 : decode cX4_send 45 = .ok (.aload_n 0, 1) := by decide +kernel
theorem dX4_send_46 : decode cX4_send 46 = .ok (.aload_n 2, 1) := by decide +kernel
theorem dX4_send_47 : decode cX4_send 47 = .ok (.invokevirtual 158, 3) := by decide +kernel
theorem dX4_send_50 : decode cX4_send 50 = .ok (.aload_n 2, 1) := by decide +kernel
theorem dX4_send_51 : decode cX4_send 51 = .ok (.invokevirtual 162, 3) := by decide +kernel
theorem dX4_send_54 : decode cX4_send 54 = .ok (.ireturn, 1) := by decide +kernel
theorem dX4_told_0 : decode cX4_told 0 = .ok (.aload_n 0, 1) := by decide +kernel
theorem dX4_told_1 : decode cX4_told 1 = .ok (.iload_n 1, 1) := by decide +kernel
theorem dX4_told_2 : decode cX4_told 2 = .ok (.invokevirtual 137, 3) := by decide +kernel
theorem dX4_told_5 : decode cX4_told 5 = .ok (.astore_n 3, 1) := by decide +kernel
theorem dX4_told_6 : decode cX4_told 6 = .ok (.aload_n 3, 1) := by decide +kernel
theorem dX4_told_7 : decode cX4_told 7 = .ok (.ifnonnull 5, 3) := by decide +kernel
theorem dX4_told_10 : decode cX4_told 10 = .ok (.iconst (-1), 1) := by decide +kernel
theorem dX4_told_11 : decode cX4_told 11 = .ok (.ireturn, 1) := by decide +kernel
theorem dX4_told_12 : decode cX4_told 12 = .ok (.iload_n 2, 1) := by decide +kernel
theorem dX4_told_13 : decode cX4_told 13 = .ok (.tableswitch 117 0 7 #[47, 52, 57, 62, 67, 72, 96, 101], 47) := by decide +kernel
theorem dX4_told_60 : decode cX4_told 60 = .ok (.aload_n 3, 1) := by decide +kernel
theorem dX4_told_61 : decode cX4_told 61 = .ok (.getfield 163, 3) := by decide +kernel
theorem dX4_told_64 : decode cX4_told 64 = .ok (.ireturn, 1) := by decide +kernel
theorem dX4_told_65 : decode cX4_told 65 = .ok (.aload_n 3, 1) := by decide +kernel
theorem dX4_told_66 : decode cX4_told 66 = .ok (.getfield 144, 3) := by decide +kernel
theorem dX4_told_69 : decode cX4_told 69 = .ok (.ireturn, 1) := by decide +kernel
theorem dX4_told_70 : decode cX4_told 70 = .ok (.aload_n 3, 1) := by decide +kernel
theorem dX4_told_71 : decode cX4_told 71 = .ok (.getfield 166, 3) := by decide +kernel
theorem dX4_told_74 : decode cX4_told 74 = .ok (.ireturn, 1) := by decide +kernel
theorem dX4_told_75 : decode cX4_told 75 = .ok (.aload_n 3, 1) := by decide +kernel
theorem dX4_told_76 : decode cX4_told 76 = .ok (.getfield 147, 3) := by decide +kernel
theorem dX4_told_79 : decode cX4_told 79 = .ok (.ireturn, 1) := by decide +kernel
theorem dX4_told_80 : decode cX4_told 80 = .ok (.aload_n 3, 1) := by decide +kernel
theorem dX4_told_81 : decode cX4_told 81 = .ok (.getfield 169, 3) := by decide +kernel
theorem dX4_told_84 : decode cX4_told 84 = .ok (.ireturn, 1) := by decide +kernel
theorem dX4_told_85 : decode cX4_told 85 = .ok (.aload_n 3, 1) := by decide +kernel
theorem dX4_told_86 : decode cX4_told 86 = .ok (.getfield 172, 3) := by decide +kernel
theorem dX4_told_89 : decode cX4_told 89 = .ok (.ifCond .eq 7, 3) := by decide +kernel
theorem dX4_told_92 : decode cX4_told 92 = .ok (.iconst 2, 1) := by decide +kernel
theorem dX4_told_93 : decode cX4_told 93 = .ok (.goto 15, 3) := by decide +kernel
theorem dX4_told_96 : decode cX4_told 96 = .ok (.aload_n 3, 1) := by decide +kernel
theorem dX4_told_97 : decode cX4_told 97 = .ok (.getfield 141, 3) := by decide +kernel
theorem dX4_told_100 : decode cX4_told 100 = .ok (.ifCond .eq 7, 3) := by decide +kernel
theorem dX4_told_103 : decode cX4_told 103 = .ok (.iconst 1, 1) := by decide +kernel
theorem dX4_told_104 : decode cX4_told 104 = .ok (.goto 4, 3) := by decide +kernel
theorem dX4_told_107 : decode cX4_told 107 = .ok (.iconst 0, 1) := by decide +kernel
theorem dX4_told_108 : decode cX4_told 108 = .ok (.ireturn, 1) := by decide +kernel
theorem dX4_told_109 : decode cX4_told 109 = .ok (.aload_n 3, 1) := by decide +kernel
