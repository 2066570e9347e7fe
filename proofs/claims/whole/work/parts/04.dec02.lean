theorem dX4_told_110 : decode cX4_told 110 = .ok (.getfield 175, 3) := by decide +kernel
theorem dX4_told_113 : decode cX4_told 113 = .ok (.ireturn, 1) := by decide +kernel
theorem dX4_told_114 : decode cX4_told 114 = .ok (.aload_n 3, 1) := by decide +kernel
theorem dX4_told_115 : decode cX4_told 115 = .ok (.getfield 172, 3) := by decide +kernel
theorem dX4_told_118 : decode cX4_told 118 = .ok (.ifCond .eq 7, 3) := by decide +kernel
theorem dX4_told_121 : decode cX4_told 121 = .ok (.iconst (-1), 1) := by decide +kernel
theorem dX4_told_122 : decode cX4_told 122 = .ok (.goto 7, 3) := by decide +kernel
theorem dX4_told_125 : decode cX4_told 125 = .ok (.aload_n 3, 1) := by decide +kernel
theorem dX4_told_126 : decode cX4_told 126 = .ok (.invokevirtual 162, 3) := by decide +kernel
theorem dX4_told_129 : decode cX4_told 129 = .ok (.ireturn, 1) := by decide +kernel
theorem dX4_told_130 : decode cX4_told 130 = .ok (.iconst (-1), 1) := by decide +kernel
theorem dX4_told_131 : decode cX4_told 131 = .ok (.ireturn, 1) := by decide +kernel
theorem dX4_leg_0 : decode cX4_leg 0 = .ok (.aload_n 0, 1) := by decide +kernel
theorem dX4_leg_1 : decode cX4_leg 1 = .ok (.iload_n 1, 1) := by decide +kernel
theorem dX4_leg_2 : decode cX4_leg 2 = .ok (.invokevirtual 137, 3) := by decide +kernel
theorem dX4_leg_5 : decode cX4_leg 5 = .ok (.astore 4, 2) := by decide +kernel
theorem dX4_leg_7 : decode cX4_leg 7 = .ok (.aload 4, 2) := by decide +kernel
theorem dX4_leg_9 : decode cX4_leg 9 = .ok (.ifnonnull 7, 3) := by decide +kernel
theorem dX4_leg_12 : decode cX4_leg 12 = .ok (.aconst_null, 1) := by decide +kernel
theorem dX4_leg_13 : decode cX4_leg 13 = .ok (.goto 9, 3) := by decide +kernel
theorem dX4_leg_16 : decode cX4_leg 16 = .ok (.aload 4, 2) := by decide +kernel
theorem dX4_leg_18 : decode cX4_leg 18 = .ok (.iload_n 2, 1) := by decide +kernel
theorem dX4_leg_19 : decode cX4_leg 19 = .ok (.invokevirtual 178, 3) := by decide +kernel
theorem dX4_leg_22 : decode cX4_leg 22 = .ok (.astore 5, 2) := by decide +kernel
theorem dX4_leg_24 : decode cX4_leg 24 = .ok (.aload 5, 2) := by decide +kernel
theorem dX4_leg_26 : decode cX4_leg 26 = .ok (.ifnonnull 5, 3) := by decide +kernel
theorem dX4_leg_29 : decode cX4_leg 29 = .ok (.iconst (-1), 1) := by decide +kernel
theorem dX4_leg_30 : decode cX4_leg 30 = .ok (.ireturn, 1) := by decide +kernel
theorem dX4_leg_31 : decode cX4_leg 31 = .ok (.iload_n 3, 1) := by decide +kernel
theorem dX4_leg_32 : decode cX4_leg 32 = .ok (.tableswitch 84 0 5 #[40, 46, 52, 58, 64, 70], 40) := by decide +kernel
theorem dX4_leg_72 : decode cX4_leg 72 = .ok (.aload 5, 2) := by decide +kernel
theorem dX4_leg_74 : decode cX4_leg 74 = .ok (.getfield 182, 3) := by decide +kernel
theorem dX4_leg_77 : decode cX4_leg 77 = .ok (.ireturn, 1) := by decide +kernel
theorem dX4_leg_78 : decode cX4_leg 78 = .ok (.aload 5, 2) := by decide +kernel
theorem dX4_leg_80 : decode cX4_leg 80 = .ok (.getfield 187, 3) := by decide +kernel
theorem dX4_leg_83 : decode cX4_leg 83 = .ok (.ireturn, 1) := by decide +kernel
theorem dX4_leg_84 : decode cX4_leg 84 = .ok (.aload 5, 2) := by decide +kernel
theorem dX4_leg_86 : decode cX4_leg 86 = .ok (.getfield 188, 3) := by decide +kernel
theorem dX4_leg_89 : decode cX4_leg 89 = .ok (.ireturn, 1) := by decide +kernel
theorem dX4_leg_90 : decode cX4_leg 90 = .ok (.aload 5, 2) := by decide +kernel
theorem dX4_leg_92 : decode cX4_leg 92 = .ok (.getfield 189, 3) := by decide +kernel
theorem dX4_leg_95 : decode cX4_leg 95 = .ok (.ireturn, 1) := by decide +kernel
theorem dX4_leg_96 : decode cX4_leg 96 = .ok (.aload 5, 2) := by decide +kernel
theorem dX4_leg_98 : decode cX4_leg 98 = .ok (.getfield 192, 3) := by decide +kernel
theorem dX4_leg_101 : decode cX4_leg 101 = .ok (.ireturn, 1) := by decide +kernel
theorem dX4_leg_102 : decode cX4_leg 102 = .ok (.aload 5, 2) := by decide +kernel
theorem dX4_leg_104 : decode cX4_leg 104 = .ok (.getfield 195, 3) := by decide +kernel
theorem dX4_leg_107 : decode cX4_leg 107 = .ok (.ifCond .eq 7, 3) := by decide +kernel
theorem dX4_leg_110 : decode cX4_leg 110 = .ok (.iconst 1, 1) := by decide +kernel
theorem dX4_leg_111 : decode cX4_leg 111 = .ok (.goto 4, 3) := by decide +kernel
theorem dX4_leg_114 : decode cX4_leg 114 = .ok (.iconst 0, 1) := by decide +kernel
theorem dX4_leg_115 : decode cX4_leg 115 = .ok (.ireturn, 1) := by decide +kernel
theorem dX4_leg_116 : decode cX4_leg 116 = .ok (.iconst (-1), 1) := by decide +kernel
theorem dX4_leg_117 : decode cX4_leg 117 = .ok (.ireturn, 1) := by decide +kernel
theorem dX4_hand_0 : decode cX4_hand 0 = .ok (.aload_n 0, 1) := by decide +kernel
theorem dX4_hand_1 : decode cX4_hand 1 = .ok (.iload_n 1, 1) := by decide +kernel
theorem dX4_hand_2 : decode cX4_hand 2 = .ok (.invokevirtual 137, 3) := by decide +kernel
theorem dX4_hand_5 : decode cX4_hand 5 = .ok (.astore_n 3, 1) := by decide +kernel
theorem dX4_hand_6 : decode cX4_hand 6 = .ok (.aload_n 3, 1) := by decide +kernel
theorem dX4_hand_7 : decode cX4_hand 7 = .ok (.ifnull 17, 3) := by decide +kernel
theorem dX4_hand_10 : decode cX4_hand 10 = .ok (.aload_n 3, 1) := by decide +kernel
theorem dX4_hand_11 : decode cX4_hand 11 = .ok (.getfield 141, 3) := by decide +kernel
theorem dX4_hand_14 : decode cX4_hand 14 = .ok (.ifCond .eq 10, 3) := by decide +kernel
theorem dX4_hand_17 : decode cX4_hand 17 = .ok (.iload_n 2, 1) := by decide +kernel
theorem dX4_hand_18 : decode cX4_hand 18 = .ok (.invokestatic 70, 3) := by decide +kernel
theorem dX4_hand_21 : decode cX4_hand 21 = .ok (.ifCond .ne 5, 3) := by decide +kernel
theorem dX4_hand_24 : decode cX4_hand 24 = .ok (.iconst (-1), 1) := by decide +kernel
theorem dX4_hand_25 : decode cX4_hand 25 = .ok (.ireturn, 1) := by decide +kernel
theorem dX4_hand_26 : decode cX4_hand 26 = .ok (.iload_n 2, 1) := by decide +kernel
theorem dX4_hand_27 : decode cX4_hand 27 = .ok (.aload_n 3, 1) := by decide +kernel
theorem dX4_hand_28 : decode cX4_hand 28 = .ok (.invokevirtual 162, 3) := by decide +kernel
theorem dX4_hand_31 : decode cX4_hand 31 = .ok (.if_icmp .le 6, 3) := by decide +kernel
theorem dX4_hand_34 : decode cX4_hand 34 = .ok (.bipush (-3), 2) := by decide +kernel
theorem dX4_hand_36 : decode cX4_hand 36 = .ok (.ireturn, 1) := by decide +kernel
theorem dX4_hand_37 : decode cX4_hand 37 = .ok (.aload_n 3, 1) := by decide +kernel
theorem dX4_hand_38 : decode cX4_hand 38 = .ok (.getfield 175, 3) := by decide +kernel
theorem dX4_hand_41 : decode cX4_hand 41 = .ok (.iconst 1, 1) := by decide +kernel
theorem dX4_hand_42 : decode cX4_hand 42 = .ok (.isub, 1) := by decide +kernel
theorem dX4_hand_43 : decode cX4_hand 43 = .ok (.istore 4, 2) := by decide +kernel
theorem dX4_hand_45 : decode cX4_hand 45 = .ok (.iload 4, 2) := by decide +kernel
theorem dX4_hand_47 : decode cX4_hand 47 = .ok (.ifCond .lt 37, 3) := by decide +kernel
theorem dX4_hand_50 : decode cX4_hand 50 = .ok (.aload_n 3, 1) := by decide +kernel
theorem dX4_hand_51 : decode cX4_hand 51 = .ok (.iload 4, 2) := by decide +kernel
theorem dX4_hand_53 : decode cX4_hand 53 = .ok (.invokevirtual 178, 3) := by decide +kernel
theorem dX4_hand_56 : decode cX4_hand 56 = .ok (.astore 5, 2) := by decide +kernel
theorem dX4_hand_58 : decode cX4_hand 58 = .ok (.aload 5, 2) := by decide +kernel
theorem dX4_hand_60 : decode cX4_hand 60 = .ok (.ifnull 18, 3) := by decide +kernel
theorem dX4_hand_63 : decode cX4_hand 63 = .ok (.aload 5, 2) := by decide +kernel
theorem dX4_hand_65 : decode cX4_hand 65 = .ok (.getfield 189, 3) := by decide +kernel
theorem dX4_hand_68 : decode cX4_hand 68 = .ok (.iload_n 2, 1) := by decide +kernel
theorem dX4_hand_69 : decode cX4_hand 69 = .ok (.if_icmp .gt 9, 3) := by decide +kernel
theorem dX4_hand_72 : decode cX4_hand 72 = .ok (.aload 5, 2) := by decide +kernel
theorem dX4_hand_74 : decode cX4_hand 74 = .ok (.getfield 182, 3) := by decide +kernel
theorem dX4_hand_77 : decode cX4_hand 77 = .ok (.ireturn, 1) := by decide +kernel
theorem dX4_hand_78 : decode cX4_hand 78 = .ok (.iinc 4 (-1), 3) := by decide +kernel
theorem dX4_hand_81 : decode cX4_hand 81 = .ok (.goto (-36), 3) := by decide +kernel
theorem dX4_hand_84 : decode cX4_hand 84 = .ok (.bipush (-2), 2) := by decide +kernel
theorem dX4_hand_86 : decode cX4_hand 86 = .ok (.ireturn, 1) := by decide +kernel
theorem dX4_fail_0 : decode cX4_fail 0 = .ok (.aload_n 0, 1) := by decide +kernel
theorem dX4_fail_1 : decode cX4_fail 1 = .ok (.iload_n 1, 1) := by decide +kernel
theorem dX4_fail_2 : decode cX4_fail 2 = .ok (.invokevirtual 137, 3) := by decide +kernel
theorem dX4_fail_5 : decode cX4_fail 5 = .ok (.astore 4, 2) := by decide +kernel
theorem dX4_fail_7 : decode cX4_fail 7 = .ok (.aload 4, 2) := by decide +kernel
theorem dX4_fail_9 : decode cX4_fail 9 = .ok (.ifnull 21, 3) := by decide +kernel
theorem dX4_fail_12 : decode cX4_fail 12 = .ok (.iload_n 1, 1) := by decide +kernel
theorem dX4_fail_13 : decode cX4_fail 13 = .ok (.aload_n 0, 1) := by decide +kernel
theorem dX4_fail_14 : decode cX4_fail 14 = .ok (.getfield 48, 3) := by decide +kernel
theorem dX4_fail_17 : decode cX4_fail 17 = .ok (.if_icmp .ne 13, 3) := by decide +kernel
theorem dX4_fail_20 : decode cX4_fail 20 = .ok (.aload 4, 2) := by decide +kernel
theorem dX4_fail_22 : decode cX4_fail 22 = .ok (.iload_n 2, 1) := by decide +kernel
theorem dX4_fail_23 : decode cX4_fail 23 = .ok (.iload_n 3, 1) := by decide +kernel
theorem dX4_fail_24 : decode cX4_fail 24 = .ok (.invokestatic 196, 3) := by decide +kernel
theorem dX4_fail_27 : decode cX4_fail 27 = .ok (.ifCond .ne 5, 3) := by decide +kernel
theorem dX4_fail_30 : decode cX4_fail 30 = .ok (.iconst (-1), 1) := by decide +kernel
theorem dX4_fail_31 : decode cX4_fail 31 = .ok (.ireturn, 1) := by decide +kernel
theorem dX4_fail_32 : decode cX4_fail 32 = .ok (.aload 4, 2) := by decide +kernel
theorem dX4_fail_34 : decode cX4_fail 34 = .ok (.iload_n 2, 1) := by decide +kernel
theorem dX4_fail_35 : decode cX4_fail 35 = .ok (.invokevirtual 178, 3) := by decide +kernel
theorem dX4_fail_38 : decode cX4_fail 38 = .ok (.astore 5, 2) := by decide +kernel
theorem dX4_fail_40 : decode cX4_fail 40 = .ok (.aload 5, 2) := by decide +kernel
theorem dX4_fail_42 : decode cX4_fail 42 = .ok (.ifnonnull 5, 3) := by decide +kernel
theorem dX4_fail_45 : decode cX4_fail 45 = .ok (.iconst (-1), 1) := by decide +kernel
theorem dX4_fail_46 : decode cX4_fail 46 = .ok (.ireturn, 1) := by decide +kernel
theorem dX4_fail_47 : decode cX4_fail 47 = .ok (.aload_n 0, 1) := by decide +kernel
theorem dX4_fail_48 : decode cX4_fail 48 = .ok (.aload 4, 2) := by decide +kernel
theorem dX4_fail_50 : decode cX4_fail 50 = .ok (.iload_n 2, 1) := by decide +kernel
theorem dX4_fail_51 : decode cX4_fail 51 = .ok (.invokevirtual 199, 3) := by decide +kernel
theorem dX4_fail_54 : decode cX4_fail 54 = .ok (.aload_n 0, 1) := by decide +kernel
theorem dX4_fail_55 : decode cX4_fail 55 = .ok (.aload 5, 2) := by decide +kernel
theorem dX4_fail_57 : decode cX4_fail 57 = .ok (.iload_n 3, 1) := by decide +kernel
theorem dX4_fail_58 : decode cX4_fail 58 = .ok (.invokevirtual 203, 3) := by decide +kernel
theorem dX4_fail_61 : decode cX4_fail 61 = .ok (.aload_n 0, 1) := by decide +kernel
theorem dX4_fail_62 : decode cX4_fail 62 = .ok (.aload 4, 2) := by decide +kernel
theorem dX4_fail_64 : decode cX4_fail 64 = .ok (.aload 5, 2) := by decide +kernel
theorem dX4_fail_66 : decode cX4_fail 66 = .ok (.getfield 187, 3) := by decide +kernel
theorem dX4_fail_69 : decode cX4_fail 69 = .ok (.iload_n 3, 1) := by decide +kernel
theorem dX4_fail_70 : decode cX4_fail 70 = .ok (.invokevirtual 150, 3) := by decide +kernel
theorem dX4_fail_73 : decode cX4_fail 73 = .ok (.ifCond .ne 12, 3) := by decide +kernel
theorem dX4_fail_76 : decode cX4_fail 76 = .ok (.aload 4, 2) := by decide +kernel
theorem dX4_fail_78 : decode cX4_fail 78 = .ok (.iconst 1, 1) := by decide +kernel
theorem dX4_fail_79 : decode cX4_fail 79 = .ok (.putfield 172, 3) := by decide +kernel
theorem dX4_fail_82 : decode cX4_fail 82 = .ok (.bipush (-2), 2) := by decide +kernel
theorem dX4_fail_84 : decode cX4_fail 84 = .ok (.ireturn, 1) := by decide +kernel
theorem dX4_fail_85 : decode cX4_fail 85 = .ok (.aload_n 0, 1) := by decide +kernel
theorem dX4_fail_86 : decode cX4_fail 86 = .ok (.aload 4, 2) := by decide +kernel
theorem dX4_fail_88 : decode cX4_fail 88 = .ok (.invokevirtual 158, 3) := by decide +kernel
theorem dX4_fail_91 : decode cX4_fail 91 = .ok (.aload 4, 2) := by decide +kernel
theorem dX4_fail_93 : decode cX4_fail 93 = .ok (.invokevirtual 162, 3) := by decide +kernel
theorem dX4_fail_96 : decode cX4_fail 96 = .ok (.ireturn, 1) := by decide +kernel
theorem dX4_next_0 : decode cX4_next 0 = .ok (.iload_n 1, 1) := by decide +kernel
theorem dX4_next_1 : decode cX4_next 1 = .ok (.invokestatic 118, 3) := by decide +kernel
theorem dX4_next_4 : decode cX4_next 4 = .ok (.ifCond .eq 11, 3) := by decide +kernel
theorem dX4_next_7 : decode cX4_next 7 = .ok (.aload_n 0, 1) := by decide +kernel
theorem dX4_next_8 : decode cX4_next 8 = .ok (.iload_n 2, 1) := by decide +kernel
theorem dX4_next_9 : decode cX4_next 9 = .ok (.invokevirtual 51, 3) := by decide +kernel
theorem dX4_next_12 : decode cX4_next 12 = .ok (.ifCond .ne 5, 3) := by decide +kernel
theorem dX4_next_15 : decode cX4_next 15 = .ok (.iconst (-1), 1) := by decide +kernel
theorem dX4_next_16 : decode cX4_next 16 = .ok (.ireturn, 1) := by decide +kernel
theorem dX4_next_17 : decode cX4_next 17 = .ok (.iconst (-1), 1) := by decide +kernel
theorem dX4_next_18 : decode cX4_next 18 = .ok (.istore_n 3, 1) := by decide +kernel
theorem dX4_next_19 : decode cX4_next 19 = .ok (.iconst 0, 1) := by decide +kernel
theorem dX4_next_20 : decode cX4_next 20 = .ok (.istore 4, 2) := by decide +kernel
theorem dX4_next_22 : decode cX4_next 22 = .ok (.iconst 0, 1) := by decide +kernel
theorem dX4_next_23 : decode cX4_next 23 = .ok (.istore 5, 2) := by decide +kernel
theorem dX4_next_25 : decode cX4_next 25 = .ok (.iconst 0, 1) := by decide +kernel
theorem dX4_next_26 : decode cX4_next 26 = .ok (.istore 6, 2) := by decide +kernel
theorem dX4_next_28 : decode cX4_next 28 = .ok (.iload 6, 2) := by decide +kernel
theorem dX4_next_30 : decode cX4_next 30 = .ok (.aload_n 0, 1) := by decide +kernel
theorem dX4_next_31 : decode cX4_next 31 = .ok (.getfield 39, 3) := by decide +kernel
theorem dX4_next_34 : decode cX4_next 34 = .ok (.if_icmp .ge 120, 3) := by decide +kernel
theorem dX4_next_37 : decode cX4_next 37 = .ok (.aload_n 0, 1) := by decide +kernel
theorem dX4_next_38 : decode cX4_next 38 = .ok (.iload 6, 2) := by decide +kernel
theorem dX4_next_40 : decode cX4_next 40 = .ok (.invokevirtual 55, 3) := by decide +kernel
theorem dX4_next_43 : decode cX4_next 43 = .ok (.astore 7, 2) := by decide +kernel
theorem dX4_next_45 : decode cX4_next 45 = .ok (.aload 7, 2) := by decide +kernel
theorem dX4_next_47 : decode cX4_next 47 = .ok (.ifnull 101, 3) := by decide +kernel
theorem dX4_next_50 : decode cX4_next 50 = .ok (.aload 7, 2) := by decide +kernel
theorem dX4_next_52 : decode cX4_next 52 = .ok (.iload_n 1, 1) := by decide +kernel
theorem dX4_next_53 : decode cX4_next 53 = .ok (.invokevirtual 121, 3) := by decide +kernel
theorem dX4_next_56 : decode cX4_next 56 = .ok (.ifCond .ne 6, 3) := by decide +kernel
theorem dX4_next_59 : decode cX4_next 59 = .ok (.goto 89, 3) := by decide +kernel
theorem dX4_next_62 : decode cX4_next 62 = .ok (.aload_n 0, 1) := by decide +kernel
theorem dX4_next_63 : decode cX4_next 63 = .ok (.aload 7, 2) := by decide +kernel
theorem dX4_next_65 : decode cX4_next 65 = .ok (.iload_n 2, 1) := by decide +kernel
theorem dX4_next_66 : decode cX4_next 66 = .ok (.invokevirtual 207, 3) := by decide +kernel
theorem dX4_next_69 : decode cX4_next 69 = .ok (.istore 8, 2) := by decide +kernel
theorem dX4_next_71 : decode cX4_next 71 = .ok (.iload 8, 2) := by decide +kernel
theorem dX4_next_73 : decode cX4_next 73 = .ok (.iconst (-1), 1) := by decide +kernel
theorem dX4_next_74 : decode cX4_next 74 = .ok (.if_icmp .eq 74, 3) := by decide +kernel
theorem dX4_next_77 : decode cX4_next 77 = .ok (.iload 8, 2) := by decide +kernel
theorem dX4_next_79 : decode cX4_next 79 = .ok (.aload 7, 2) := by decide +kernel
theorem dX4_next_81 : decode cX4_next 81 = .ok (.getfield 211, 3) := by decide +kernel
theorem dX4_next_84 : decode cX4_next 84 = .ok (.if_icmp .le 6, 3) := by decide +kernel
theorem dX4_next_87 : decode cX4_next 87 = .ok (.goto 61, 3) := by decide +kernel
theorem dX4_next_90 : decode cX4_next 90 = .ok (.aload 7, 2) := by decide +kernel
theorem dX4_next_92 : decode cX4_next 92 = .ok (.getfield 104, 3) := by decide +kernel
theorem dX4_next_95 : decode cX4_next 95 = .ok (.iload 4, 2) := by decide +kernel
theorem dX4_next_97 : decode cX4_next 97 = .ok (.if_icmp .ne 7, 3) := by decide +kernel
theorem dX4_next_100 : decode cX4_next 100 = .ok (.iconst 1, 1) := by decide +kernel
theorem dX4_next_101 : decode cX4_next 101 = .ok (.goto 4, 3) := by decide +kernel
theorem dX4_next_104 : decode cX4_next 104 = .ok (.iconst 0, 1) := by decide +kernel
theorem dX4_next_105 : decode cX4_next 105 = .ok (.istore 9, 2) := by decide +kernel
theorem dX4_next_107 : decode cX4_next 107 = .ok (.iload_n 3, 1) := by decide +kernel
theorem dX4_next_108 : decode cX4_next 108 = .ok (.iconst (-1), 1) := by decide +kernel
theorem dX4_next_109 : decode cX4_next 109 = .ok (.if_icmp .eq 25, 3) := by decide +kernel
theorem dX4_next_112 : decode cX4_next 112 = .ok (.aload 7, 2) := by decide +kernel
theorem dX4_next_114 : decode cX4_next 114 = .ok (.getfield 104, 3) := by decide +kernel
theorem dX4_next_117 : decode cX4_next 117 = .ok (.iload 4, 2) := by decide +kernel
theorem dX4_next_119 : decode cX4_next 119 = .ok (.if_icmp .lt 15, 3) := by decide +kernel
theorem dX4_next_122 : decode cX4_next 122 = .ok (.iload 9, 2) := by decide +kernel
theorem dX4_next_124 : decode cX4_next 124 = .ok (.ifCond .eq 24, 3) := by decide +kernel
theorem dX4_next_127 : decode cX4_next 127 = .ok (.iload 8, 2) := by decide +kernel
theorem dX4_next_129 : decode cX4_next 129 = .ok (.iload 5, 2) := by decide +kernel
theorem dX4_next_131 : decode cX4_next 131 = .ok (.if_icmp .ge 17, 3) := by decide +kernel
theorem dX4_next_134 : decode cX4_next 134 = .ok (.iload 6, 2) := by decide +kernel
theorem dX4_next_136 : decode cX4_next 136 = .ok (.istore_n 3, 1) := by decide +kernel
theorem dX4_next_137 : decode cX4_next 137 = .ok (.aload 7, 2) := by decide +kernel
theorem dX4_next_139 : decode cX4_next 139 = .ok (.getfield 104, 3) := by decide +kernel
theorem dX4_next_142 : decode cX4_next 142 = .ok (.istore 4, 2) := by decide +kernel
theorem dX4_next_144 : decode cX4_next 144 = .ok (.iload 8, 2) := by decide +kernel
theorem dX4_next_146 : decode cX4_next 146 = .ok (.istore 5, 2) := by decide +kernel
theorem dX4_next_148 : decode cX4_next 148 = .ok (.iinc 6 1, 3) := by decide +kernel
theorem dX4_next_151 : decode cX4_next 151 = .ok (.goto (-123), 3) := by decide +kernel
theorem dX4_next_154 : decode cX4_next 154 = .ok (.iload_n 3, 1) := by decide +kernel
theorem dX4_next_155 : decode cX4_next 155 = .ok (.ireturn, 1) := by decide +kernel
theorem dX4_isMinute_0 : decode cX4_isMinute 0 = .ok (.iload_n 0, 1) := by decide +kernel
theorem dX4_isMinute_1 : decode cX4_isMinute 1 = .ok (.ifCond .lt 14, 3) := by decide +kernel
theorem dX4_isMinute_4 : decode cX4_isMinute 4 = .ok (.iload_n 0, 1) := by decide +kernel
theorem dX4_isMinute_5 : decode cX4_isMinute 5 = .ok (.sipush 4320, 3) := by decide +kernel
theorem dX4_isMinute_8 : decode cX4_isMinute 8 = .ok (.if_icmp .ge 7, 3) := by decide +kernel
theorem dX4_isMinute_11 : decode cX4_isMinute 11 = .ok (.iconst 1, 1) := by decide +kernel
theorem dX4_isMinute_12 : decode cX4_isMinute 12 = .ok (.goto 4, 3) := by decide +kernel
theorem dX4_isMinute_15 : decode cX4_isMinute 15 = .ok (.iconst 0, 1) := by decide +kernel
theorem dX4_isMinute_16 : decode cX4_isMinute 16 = .ok (.ireturn, 1) := by decide +kernel
theorem dX4_isKind_0 : decode cX4_isKind 0 = .ok (.iload_n 0, 1) := by decide +kernel
theorem dX4_isKind_1 : decode cX4_isKind 1 = .ok (.ifCond .lt 12, 3) := by decide +kernel
theorem dX4_isKind_4 : decode cX4_isKind 4 = .ok (.iload_n 0, 1) := by decide +kernel
theorem dX4_isKind_5 : decode cX4_isKind 5 = .ok (.iconst 4, 1) := by decide +kernel
theorem dX4_isKind_6 : decode cX4_isKind 6 = .ok (.if_icmp .ge 7, 3) := by decide +kernel
theorem dX4_isKind_9 : decode cX4_isKind 9 = .ok (.iconst 1, 1) := by decide +kernel
theorem dX4_isKind_10 : decode cX4_isKind 10 = .ok (.goto 4, 3) := by decide +kernel
theorem dX4_isKind_13 : decode cX4_isKind 13 = .ok (.iconst 0, 1) := by decide +kernel
theorem dX4_isKind_14 : decode cX4_isKind 14 = .ok (.ireturn, 1) := by decide +kernel
theorem dX4_isPlace_0 : decode cX4_isPlace 0 = .ok (.iload_n 1, 1) := by decide +kernel
theorem dX4_isPlace_1 : decode cX4_isPlace 1 = .ok (.ifCond .lt 21, 3) := by decide +kernel
theorem dX4_isPlace_4 : decode cX4_isPlace 4 = .ok (.iload_n 1, 1) := by decide +kernel
theorem dX4_isPlace_5 : decode cX4_isPlace 5 = .ok (.aload_n 0, 1) := by decide +kernel
theorem dX4_isPlace_6 : decode cX4_isPlace 6 = .ok (.getfield 35, 3) := by decide +kernel
theorem dX4_isPlace_9 : decode cX4_isPlace 9 = .ok (.if_icmp .ge 13, 3) := by decide +kernel
theorem dX4_isPlace_12 : decode cX4_isPlace 12 = .ok (.iload_n 1, 1) := by decide +kernel
theorem dX4_isPlace_13 : decode cX4_isPlace 13 = .ok (.bipush 8, 2) := by decide +kernel
theorem dX4_isPlace_15 : decode cX4_isPlace 15 = .ok (.if_icmp .ge 7, 3) := by decide +kernel
theorem dX4_isPlace_18 : decode cX4_isPlace 18 = .ok (.iconst 1, 1) := by decide +kernel
theorem dX4_isPlace_19 : decode cX4_isPlace 19 = .ok (.goto 4, 3) := by decide +kernel
theorem dX4_isPlace_22 : decode cX4_isPlace 22 = .ok (.iconst 0, 1) := by decide +kernel
theorem dX4_isPlace_23 : decode cX4_isPlace 23 = .ok (.ireturn, 1) := by decide +kernel
theorem dX4_areBits_0 : decode cX4_areBits 0 = .ok (.iload_n 0, 1) := by decide +kernel
theorem dX4_areBits_1 : decode cX4_areBits 1 = .ok (.ifCond .lt 14, 3) := by decide +kernel
theorem dX4_areBits_4 : decode cX4_areBits 4 = .ok (.iload_n 0, 1) := by decide +kernel
theorem dX4_areBits_5 : decode cX4_areBits 5 = .ok (.iconst 1, 1) := by decide +kernel
theorem dX4_areBits_6 : decode cX4_areBits 6 = .ok (.iload_n 1, 1) := by decide +kernel
theorem dX4_areBits_7 : decode cX4_areBits 7 = .ok (.ishl, 1) := by decide +kernel
theorem dX4_areBits_8 : decode cX4_areBits 8 = .ok (.if_icmp .ge 7, 3) := by decide +kernel
theorem dX4_areBits_11 : decode cX4_areBits 11 = .ok (.iconst 1, 1) := by decide +kernel
theorem dX4_areBits_12 : decode cX4_areBits 12 = .ok (.goto 4, 3) := by decide +kernel
theorem dX4_areBits_15 : decode cX4_areBits 15 = .ok (.iconst 0, 1) := by decide +kernel
theorem dX4_areBits_16 : decode cX4_areBits 16 = .ok (.ireturn, 1) := by decide +kernel
theorem dX4_hasBit_0 : decode cX4_hasBit 0 = .ok (.iload_n 0, 1) := by decide +kernel
theorem dX4_hasBit_1 : decode cX4_hasBit 1 = .ok (.iload_n 1, 1) := by decide +kernel
theorem dX4_hasBit_2 : decode cX4_hasBit 2 = .ok (.ishr, 1) := by decide +kernel
theorem dX4_hasBit_3 : decode cX4_hasBit 3 = .ok (.iconst 1, 1) := by decide +kernel
theorem dX4_hasBit_4 : decode cX4_hasBit 4 = .ok (.iand, 1) := by decide +kernel
theorem dX4_hasBit_5 : decode cX4_hasBit 5 = .ok (.iconst 1, 1) := by decide +kernel
theorem dX4_hasBit_6 : decode cX4_hasBit 6 = .ok (.if_icmp .ne 7, 3) := by decide +kernel
theorem dX4_hasBit_9 : decode cX4_hasBit 9 = .ok (.iconst 1, 1) := by decide +kernel
theorem dX4_hasBit_10 : decode cX4_hasBit 10 = .ok (.goto 4, 3) := by decide +kernel
theorem dX4_hasBit_13 : decode cX4_hasBit 13 = .ok (.iconst 0, 1) := by decide +kernel
theorem dX4_hasBit_14 : decode cX4_hasBit 14 = .ok (.ireturn, 1) := by decide +kernel
theorem dX4_riderAt_0 : decode cX4_riderAt 0 = .ok (.iload_n 1, 1) := by decide +kernel
theorem dX4_riderAt_1 : decode cX4_riderAt 1 = .ok (.ifCond .lt 26, 3) := by decide +kernel
theorem dX4_riderAt_4 : decode cX4_riderAt 4 = .ok (.iload_n 1, 1) := by decide +kernel
theorem dX4_riderAt_5 : decode cX4_riderAt 5 = .ok (.aload_n 0, 1) := by decide +kernel
theorem dX4_riderAt_6 : decode cX4_riderAt 6 = .ok (.getfield 39, 3) := by decide +kernel
theorem dX4_riderAt_9 : decode cX4_riderAt 9 = .ok (.if_icmp .ge 18, 3) := by decide +kernel
theorem dX4_riderAt_12 : decode cX4_riderAt 12 = .ok (.iload_n 1, 1) := by decide +kernel
theorem dX4_riderAt_13 : decode cX4_riderAt 13 = .ok (.bipush 6, 2) := by decide +kernel
theorem dX4_riderAt_15 : decode cX4_riderAt 15 = .ok (.if_icmp .ge 12, 3) := by decide +kernel
theorem dX4_riderAt_18 : decode cX4_riderAt 18 = .ok (.aload_n 0, 1) := by decide +kernel
theorem dX4_riderAt_19 : decode cX4_riderAt 19 = .ok (.getfield 15, 3) := by decide +kernel
theorem dX4_riderAt_22 : decode cX4_riderAt 22 = .ok (.iload_n 1, 1) := by decide +kernel
theorem dX4_riderAt_23 : decode cX4_riderAt 23 = .ok (.aaload, 1) := by decide +kernel
theorem dX4_riderAt_24 : decode cX4_riderAt 24 = .ok (.goto 4, 3) := by decide +kernel
theorem dX4_riderAt_27 : decode cX4_riderAt 27 = .ok (.aconst_null, 1) := by decide +kernel
theorem dX4_riderAt_28 : decode cX4_riderAt 28 = .ok (.areturn, 1) := by decide +kernel
theorem dX4_requestAt_0 : decode cX4_requestAt 0 = .ok (.iload_n 1, 1) := by decide +kernel
theorem dX4_requestAt_1 : decode cX4_requestAt 1 = .ok (.ifCond .lt 26, 3) := by decide +kernel
theorem dX4_requestAt_4 : decode cX4_requestAt 4 = .ok (.iload_n 1, 1) := by decide +kernel
theorem dX4_requestAt_5 : decode cX4_requestAt 5 = .ok (.aload_n 0, 1) := by decide +kernel
theorem dX4_requestAt_6 : decode cX4_requestAt 6 = .ok (.getfield 42, 3) := by decide +kernel
theorem dX4_requestAt_9 : decode cX4_requestAt 9 = .ok (.if_icmp .ge 18, 3) := by decide +kernel
theorem dX4_requestAt_12 : decode cX4_requestAt 12 = .ok (.iload_n 1, 1) := by decide +kernel
theorem dX4_requestAt_13 : decode cX4_requestAt 13 = .ok (.bipush 40, 2) := by decide +kernel
theorem dX4_requestAt_15 : decode cX4_requestAt 15 = .ok (.if_icmp .ge 12, 3) := by decide +kernel
theorem dX4_requestAt_18 : decode cX4_requestAt 18 = .ok (.aload_n 0, 1) := by decide +kernel
theorem dX4_requestAt_19 : decode cX4_requestAt 19 = .ok (.getfield 21, 3) := by decide +kernel
theorem dX4_requestAt_22 : decode cX4_requestAt 22 = .ok (.iload_n 1, 1) := by decide +kernel
theorem dX4_requestAt_23 : decode cX4_requestAt 23 = .ok (.aaload, 1) := by decide +kernel
theorem dX4_requestAt_24 : decode cX4_requestAt 24 = .ok (.goto 4, 3) := by decide +kernel
theorem dX4_requestAt_27 : decode cX4_requestAt 27 = .ok (.aconst_null, 1) := by decide +kernel
theorem dX4_requestAt_28 : decode cX4_requestAt 28 = .ok (.areturn, 1) := by decide +kernel
theorem dX4_wayOf_0 : decode cX4_wayOf 0 = .ok (.aload_n 0, 1) := by decide +kernel
theorem dX4_wayOf_1 : decode cX4_wayOf 1 = .ok (.iload_n 2, 1) := by decide +kernel
theorem dX4_wayOf_2 : decode cX4_wayOf 2 = .ok (.invokevirtual 51, 3) := by decide +kernel
theorem dX4_wayOf_5 : decode cX4_wayOf 5 = .ok (.ifCond .eq 25, 3) := by decide +kernel
theorem dX4_wayOf_8 : decode cX4_wayOf 8 = .ok (.aload_n 0, 1) := by decide +kernel
theorem dX4_wayOf_9 : decode cX4_wayOf 9 = .ok (.iload_n 3, 1) := by decide +kernel
theorem dX4_wayOf_10 : decode cX4_wayOf 10 = .ok (.invokevirtual 51, 3) := by decide +kernel
theorem dX4_wayOf_13 : decode cX4_wayOf 13 = .ok (.ifCond .eq 17, 3) := by decide +kernel
theorem dX4_wayOf_16 : decode cX4_wayOf 16 = .ok (.aload_n 1, 1) := by decide +kernel
theorem dX4_wayOf_17 : decode cX4_wayOf 17 = .ok (.getfield 214, 3) := by decide +kernel
theorem dX4_wayOf_20 : decode cX4_wayOf 20 = .ok (.iload_n 2, 1) := by decide +kernel
theorem dX4_wayOf_21 : decode cX4_wayOf 21 = .ok (.bipush 8, 2) := by decide +kernel
theorem dX4_wayOf_23 : decode cX4_wayOf 23 = .ok (.imul, 1) := by decide +kernel
theorem dX4_wayOf_24 : decode cX4_wayOf 24 = .ok (.iload_n 3, 1) := by decide +kernel
theorem dX4_wayOf_25 : decode cX4_wayOf 25 = .ok (.iadd, 1) := by decide +kernel
theorem dX4_wayOf_26 : decode cX4_wayOf 26 = .ok (.iaload, 1) := by decide +kernel
theorem dX4_wayOf_27 : decode cX4_wayOf 27 = .ok (.goto 4, 3) := by decide +kernel
theorem dX4_wayOf_30 : decode cX4_wayOf 30 = .ok (.iconst (-1), 1) := by decide +kernel
theorem dX4_wayOf_31 : decode cX4_wayOf 31 = .ok (.ireturn, 1) := by decide +kernel
theorem dX4_settleWays_0 : decode cX4_settleWays 0 = .ok (.iconst 0, 1) := by decide +kernel
theorem dX4_settleWays_1 : decode cX4_settleWays 1 = .ok (.istore_n 2, 1) := by decide +kernel
theorem dX4_settleWays_2 : decode cX4_settleWays 2 = .ok (.iload_n 2, 1) := by decide +kernel
theorem dX4_settleWays_3 : decode cX4_settleWays 3 = .ok (.bipush 8, 2) := by decide +kernel
theorem dX4_settleWays_5 : decode cX4_settleWays 5 = .ok (.if_icmp .ge 44, 3) := by decide +kernel
theorem dX4_settleWays_8 : decode cX4_settleWays 8 = .ok (.iconst 0, 1) := by decide +kernel
theorem dX4_settleWays_9 : decode cX4_settleWays 9 = .ok (.istore_n 3, 1) := by decide +kernel
theorem dX4_settleWays_10 : decode cX4_settleWays 10 = .ok (.iload_n 3, 1) := by decide +kernel
theorem dX4_settleWays_11 : decode cX4_settleWays 11 = .ok (.bipush 8, 2) := by decide +kernel
theorem dX4_settleWays_13 : decode cX4_settleWays 13 = .ok (.if_icmp .ge 30, 3) := by decide +kernel
theorem dX4_settleWays_16 : decode cX4_settleWays 16 = .ok (.aload_n 1, 1) := by decide +kernel
theorem dX4_settleWays_17 : decode cX4_settleWays 17 = .ok (.getfield 214, 3) := by decide +kernel
theorem dX4_settleWays_20 : decode cX4_settleWays 20 = .ok (.iload_n 2, 1) := by decide +kernel
theorem dX4_settleWays_21 : decode cX4_settleWays 21 = .ok (.bipush 8, 2) := by decide +kernel
theorem dX4_settleWays_23 : decode cX4_settleWays 23 = .ok (.imul, 1) := by decide +kernel
theorem dX4_settleWays_24 : decode cX4_settleWays 24 = .ok (.iload_n 3, 1) := by decide +kernel
theorem dX4_settleWays_25 : decode cX4_settleWays 25 = .ok (.iadd, 1) := by decide +kernel
theorem dX4_settleWays_26 : decode cX4_settleWays 26 = .ok (.aload_n 0, 1) := by decide +kernel
theorem dX4_settleWays_27 : decode cX4_settleWays 27 = .ok (.aload_n 1, 1) := by decide +kernel
theorem dX4_settleWays_28 : decode cX4_settleWays 28 = .ok (.getfield 110, 3) := by decide +kernel
theorem dX4_settleWays_31 : decode cX4_settleWays 31 = .ok (.iload_n 2, 1) := by decide +kernel
theorem dX4_settleWays_32 : decode cX4_settleWays 32 = .ok (.iload_n 3, 1) := by decide +kernel
theorem dX4_settleWays_33 : decode cX4_settleWays 33 = .ok (.invokevirtual 217, 3) := by decide +kernel
theorem dX4_settleWays_36 : decode cX4_settleWays 36 = .ok (.iastore, 1) := by decide +kernel
theorem dX4_settleWays_37 : decode cX4_settleWays 37 = .ok (.iinc 3 1, 3) := by decide +kernel
theorem dX4_settleWays_40 : decode cX4_settleWays 40 = .ok (.goto (-30), 3) := by decide +kernel
theorem dX4_settleWays_43 : decode cX4_settleWays 43 = .ok (.iinc 2 1, 3) := by decide +kernel
theorem dX4_settleWays_46 : decode cX4_settleWays 46 = .ok (.goto (-44), 3) := by decide +kernel
theorem dX4_settleWays_49 : decode cX4_settleWays 49 = .ok (.aload_n 1, 1) := by decide +kernel
theorem dX4_settleWays_50 : decode cX4_settleWays 50 = .ok (.invokevirtual 221, 3) := by decide +kernel
theorem dX4_settleWays_53 : decode cX4_settleWays 53 = .ok (.return_, 1) := by decide +kernel
theorem dX4_roadWithin_0 : decode cX4_roadWithin 0 = .ok (.aload_n 0, 1) := by decide +kernel
theorem dX4_roadWithin_1 : decode cX4_roadWithin 1 = .ok (.iload_n 2, 1) := by decide +kernel
theorem dX4_roadWithin_2 : decode cX4_roadWithin 2 = .ok (.invokevirtual 51, 3) := by decide +kernel
theorem dX4_roadWithin_5 : decode cX4_roadWithin 5 = .ok (.ifCond .eq 27, 3) := by decide +kernel
theorem dX4_roadWithin_8 : decode cX4_roadWithin 8 = .ok (.aload_n 0, 1) := by decide +kernel
theorem dX4_roadWithin_9 : decode cX4_roadWithin 9 = .ok (.iload_n 3, 1) := by decide +kernel
theorem dX4_roadWithin_10 : decode cX4_roadWithin 10 = .ok (.invokevirtual 51, 3) := by decide +kernel
theorem dX4_roadWithin_13 : decode cX4_roadWithin 13 = .ok (.ifCond .eq 19, 3) := by decide +kernel
theorem dX4_roadWithin_16 : decode cX4_roadWithin 16 = .ok (.iload_n 1, 1) := by decide +kernel
theorem dX4_roadWithin_17 : decode cX4_roadWithin 17 = .ok (.iload_n 2, 1) := by decide +kernel
theorem dX4_roadWithin_18 : decode cX4_roadWithin 18 = .ok (.invokestatic 67, 3) := by decide +kernel
theorem dX4_roadWithin_21 : decode cX4_roadWithin 21 = .ok (.ifCond .eq 11, 3) := by decide +kernel
theorem dX4_roadWithin_24 : decode cX4_roadWithin 24 = .ok (.iload_n 1, 1) := by decide +kernel
theorem dX4_roadWithin_25 : decode cX4_roadWithin 25 = .ok (.iload_n 3, 1) := by decide +kernel
theorem dX4_roadWithin_26 : decode cX4_roadWithin 26 = .ok (.invokestatic 67, 3) := by decide +kernel
theorem dX4_roadWithin_29 : decode cX4_roadWithin 29 = .ok (.ifCond .ne 5, 3) := by decide +kernel
theorem dX4_roadWithin_32 : decode cX4_roadWithin 32 = .ok (.iconst (-1), 1) := by decide +kernel
theorem dX4_roadWithin_33 : decode cX4_roadWithin 33 = .ok (.ireturn, 1) := by decide +kernel
theorem dX4_roadWithin_34 : decode cX4_roadWithin 34 = .ok (.iload_n 2, 1) := by decide +kernel
theorem dX4_roadWithin_35 : decode cX4_roadWithin 35 = .ok (.iload_n 3, 1) := by decide +kernel
theorem dX4_roadWithin_36 : decode cX4_roadWithin 36 = .ok (.if_icmp .ne 5, 3) := by decide +kernel
theorem dX4_roadWithin_39 : decode cX4_roadWithin 39 = .ok (.iconst 0, 1) := by decide +kernel
theorem dX4_roadWithin_40 : decode cX4_roadWithin 40 = .ok (.ireturn, 1) := by decide +kernel
theorem dX4_roadWithin_41 : decode cX4_roadWithin 41 = .ok (.aload_n 0, 1) := by decide +kernel
theorem dX4_roadWithin_42 : decode cX4_roadWithin 42 = .ok (.getfield 9, 3) := by decide +kernel
theorem dX4_roadWithin_45 : decode cX4_roadWithin 45 = .ok (.iload_n 2, 1) := by decide +kernel
theorem dX4_roadWithin_46 : decode cX4_roadWithin 46 = .ok (.bipush 8, 2) := by decide +kernel
theorem dX4_roadWithin_48 : decode cX4_roadWithin 48 = .ok (.imul, 1) := by decide +kernel
theorem dX4_roadWithin_49 : decode cX4_roadWithin 49 = .ok (.iload_n 3, 1) := by decide +kernel
theorem dX4_roadWithin_50 : decode cX4_roadWithin 50 = .ok (.iadd, 1) := by decide +kernel
theorem dX4_roadWithin_51 : decode cX4_roadWithin 51 = .ok (.iaload, 1) := by decide +kernel
theorem dX4_roadWithin_52 : decode cX4_roadWithin 52 = .ok (.istore 4, 2) := by decide +kernel
theorem dX4_roadWithin_54 : decode cX4_roadWithin 54 = .ok (.iload 4, 2) := by decide +kernel
theorem dX4_roadWithin_56 : decode cX4_roadWithin 56 = .ok (.ifCond .ne 7, 3) := by decide +kernel
theorem dX4_roadWithin_59 : decode cX4_roadWithin 59 = .ok (.iconst (-1), 1) := by decide +kernel
theorem dX4_roadWithin_60 : decode cX4_roadWithin 60 = .ok (.goto 5, 3) := by decide +kernel
theorem dX4_roadWithin_63 : decode cX4_roadWithin 63 = .ok (.iload 4, 2) := by decide +kernel
theorem dX4_roadWithin_65 : decode cX4_roadWithin 65 = .ok (.ireturn, 1) := by decide +kernel
theorem dX4_thereFrom_0 : decode cX4_thereFrom 0 = .ok (.aload_n 0, 1) := by decide +kernel
theorem dX4_thereFrom_1 : decode cX4_thereFrom 1 = .ok (.aload_n 1, 1) := by decide +kernel
theorem dX4_thereFrom_2 : decode cX4_thereFrom 2 = .ok (.aload_n 1, 1) := by decide +kernel
theorem dX4_thereFrom_3 : decode cX4_thereFrom 3 = .ok (.getfield 94, 3) := by decide +kernel
theorem dX4_thereFrom_6 : decode cX4_thereFrom 6 = .ok (.iload_n 2, 1) := by decide +kernel
theorem dX4_thereFrom_7 : decode cX4_thereFrom 7 = .ok (.invokevirtual 80, 3) := by decide +kernel
theorem dX4_thereFrom_10 : decode cX4_thereFrom 10 = .ok (.istore_n 3, 1) := by decide +kernel
theorem dX4_thereFrom_11 : decode cX4_thereFrom 11 = .ok (.iload_n 3, 1) := by decide +kernel
theorem dX4_thereFrom_12 : decode cX4_thereFrom 12 = .ok (.iconst (-1), 1) := by decide +kernel
theorem dX4_thereFrom_13 : decode cX4_thereFrom 13 = .ok (.if_icmp .ne 7, 3) := by decide +kernel
theorem dX4_thereFrom_16 : decode cX4_thereFrom 16 = .ok (.iconst (-1), 1) := by decide +kernel
theorem dX4_thereFrom_17 : decode cX4_thereFrom 17 = .ok (.goto 16, 3) := by decide +kernel
theorem dX4_thereFrom_20 : decode cX4_thereFrom 20 = .ok (.aload_n 1, 1) := by decide +kernel
theorem dX4_thereFrom_21 : decode cX4_thereFrom 21 = .ok (.getfield 101, 3) := by decide +kernel
theorem dX4_thereFrom_24 : decode cX4_thereFrom 24 = .ok (.aload_n 1, 1) := by decide +kernel
theorem dX4_thereFrom_25 : decode cX4_thereFrom 25 = .ok (.getfield 224, 3) := by decide +kernel
theorem dX4_thereFrom_28 : decode cX4_thereFrom 28 = .ok (.invokestatic 131, 3) := by decide +kernel
theorem dX4_thereFrom_31 : decode cX4_thereFrom 31 = .ok (.iload_n 3, 1) := by decide +kernel
theorem dX4_thereFrom_32 : decode cX4_thereFrom 32 = .ok (.iadd, 1) := by decide +kernel
theorem dX4_thereFrom_33 : decode cX4_thereFrom 33 = .ok (.ireturn, 1) := by decide +kernel
theorem dX4_countRequests_0 : decode cX4_countRequests 0 = .ok (.iconst 0, 1) := by decide +kernel
theorem dX4_countRequests_1 : decode cX4_countRequests 1 = .ok (.istore_n 2, 1) := by decide +kernel
theorem dX4_countRequests_2 : decode cX4_countRequests 2 = .ok (.iconst 0, 1) := by decide +kernel
theorem dX4_countRequests_3 : decode cX4_countRequests 3 = .ok (.istore_n 3, 1) := by decide +kernel
theorem dX4_countRequests_4 : decode cX4_countRequests 4 = .ok (.iload_n 3, 1) := by decide +kernel
theorem dX4_countRequests_5 : decode cX4_countRequests 5 = .ok (.aload_n 0, 1) := by decide +kernel
theorem dX4_countRequests_6 : decode cX4_countRequests 6 = .ok (.getfield 42, 3) := by decide +kernel
theorem dX4_countRequests_9 : decode cX4_countRequests 9 = .ok (.if_icmp .ge 33, 3) := by decide +kernel
theorem dX4_countRequests_12 : decode cX4_countRequests 12 = .ok (.aload_n 0, 1) := by decide +kernel
theorem dX4_countRequests_13 : decode cX4_countRequests 13 = .ok (.iload_n 3, 1) := by decide +kernel
theorem dX4_countRequests_14 : decode cX4_countRequests 14 = .ok (.invokevirtual 137, 3) := by decide +kernel
theorem dX4_countRequests_17 : decode cX4_countRequests 17 = .ok (.astore 4, 2) := by decide +kernel
theorem dX4_countRequests_19 : decode cX4_countRequests 19 = .ok (.aload 4, 2) := by decide +kernel
theorem dX4_countRequests_21 : decode cX4_countRequests 21 = .ok (.ifnull 15, 3) := by decide +kernel
theorem dX4_countRequests_24 : decode cX4_countRequests 24 = .ok (.aload 4, 2) := by decide +kernel
theorem dX4_countRequests_26 : decode cX4_countRequests 26 = .ok (.iload_n 1, 1) := by decide +kernel
theorem dX4_countRequests_27 : decode cX4_countRequests 27 = .ok (.invokestatic 227, 3) := by decide +kernel
theorem dX4_countRequests_30 : decode cX4_countRequests 30 = .ok (.ifCond .eq 6, 3) := by decide +kernel
theorem dX4_countRequests_33 : decode cX4_countRequests 33 = .ok (.iinc 2 1, 3) := by decide +kernel
theorem dX4_countRequests_36 : decode cX4_countRequests 36 = .ok (.iinc 3 1, 3) := by decide +kernel
theorem dX4_countRequests_39 : decode cX4_countRequests 39 = .ok (.goto (-35), 3) := by decide +kernel
theorem dX4_countRequests_42 : decode cX4_countRequests 42 = .ok (.iload_n 2, 1) := by decide +kernel
theorem dX4_countRequests_43 : decode cX4_countRequests 43 = .ok (.ireturn, 1) := by decide +kernel
theorem dX4_isCounted_0 : decode cX4_isCounted 0 = .ok (.iload_n 1, 1) := by decide +kernel
theorem dX4_isCounted_1 : decode cX4_isCounted 1 = .ok (.lookupswitch 37 #[(3, 27), (4, 32)], 27) := by decide +kernel
theorem dX4_isCounted_28 : decode cX4_isCounted 28 = .ok (.aload_n 0, 1) := by decide +kernel
theorem dX4_isCounted_29 : decode cX4_isCounted 29 = .ok (.getfield 141, 3) := by decide +kernel
theorem dX4_isCounted_32 : decode cX4_isCounted 32 = .ok (.ireturn, 1) := by decide +kernel
theorem dX4_isCounted_33 : decode cX4_isCounted 33 = .ok (.aload_n 0, 1) := by decide +kernel
theorem dX4_isCounted_34 : decode cX4_isCounted 34 = .ok (.getfield 172, 3) := by decide +kernel
theorem dX4_isCounted_37 : decode cX4_isCounted 37 = .ok (.ireturn, 1) := by decide +kernel
theorem dX4_isCounted_38 : decode cX4_isCounted 38 = .ok (.aload_n 0, 1) := by decide +kernel
theorem dX4_isCounted_39 : decode cX4_isCounted 39 = .ok (.invokevirtual 231, 3) := by decide +kernel
theorem dX4_isCounted_42 : decode cX4_isCounted 42 = .ok (.ireturn, 1) := by decide +kernel
theorem dX4_lastOnDuty_0 : decode cX4_lastOnDuty 0 = .ok (.iconst (-1), 1) := by decide +kernel
theorem dX4_lastOnDuty_1 : decode cX4_lastOnDuty 1 = .ok (.istore_n 3, 1) := by decide +kernel
theorem dX4_lastOnDuty_2 : decode cX4_lastOnDuty 2 = .ok (.iconst 0, 1) := by decide +kernel
theorem dX4_lastOnDuty_3 : decode cX4_lastOnDuty 3 = .ok (.istore 4, 2) := by decide +kernel
theorem dX4_lastOnDuty_5 : decode cX4_lastOnDuty 5 = .ok (.iload 4, 2) := by decide +kernel
theorem dX4_lastOnDuty_7 : decode cX4_lastOnDuty 7 = .ok (.aload_n 0, 1) := by decide +kernel
theorem dX4_lastOnDuty_8 : decode cX4_lastOnDuty 8 = .ok (.getfield 39, 3) := by decide +kernel
theorem dX4_lastOnDuty_11 : decode cX4_lastOnDuty 11 = .ok (.if_icmp .ge 50, 3) := by decide +kernel
theorem dX4_lastOnDuty_14 : decode cX4_lastOnDuty 14 = .ok (.aload_n 0, 1) := by decide +kernel
theorem dX4_lastOnDuty_15 : decode cX4_lastOnDuty 15 = .ok (.iload 4, 2) := by decide +kernel
theorem dX4_lastOnDuty_17 : decode cX4_lastOnDuty 17 = .ok (.invokevirtual 55, 3) := by decide +kernel
theorem dX4_lastOnDuty_20 : decode cX4_lastOnDuty 20 = .ok (.astore 5, 2) := by decide +kernel
theorem dX4_lastOnDuty_22 : decode cX4_lastOnDuty 22 = .ok (.aload 5, 2) := by decide +kernel
theorem dX4_lastOnDuty_24 : decode cX4_lastOnDuty 24 = .ok (.ifnull 31, 3) := by decide +kernel
theorem dX4_lastOnDuty_27 : decode cX4_lastOnDuty 27 = .ok (.aload 5, 2) := by decide +kernel
theorem dX4_lastOnDuty_29 : decode cX4_lastOnDuty 29 = .ok (.iload_n 2, 1) := by decide +kernel
theorem dX4_lastOnDuty_30 : decode cX4_lastOnDuty 30 = .ok (.invokevirtual 121, 3) := by decide +kernel
theorem dX4_lastOnDuty_33 : decode cX4_lastOnDuty 33 = .ok (.ifCond .eq 22, 3) := by decide +kernel
theorem dX4_lastOnDuty_36 : decode cX4_lastOnDuty 36 = .ok (.aload 5, 2) := by decide +kernel
theorem dX4_lastOnDuty_38 : decode cX4_lastOnDuty 38 = .ok (.iload_n 1, 1) := by decide +kernel
theorem dX4_lastOnDuty_39 : decode cX4_lastOnDuty 39 = .ok (.invokevirtual 124, 3) := by decide +kernel
theorem dX4_lastOnDuty_42 : decode cX4_lastOnDuty 42 = .ok (.ifCond .eq 13, 3) := by decide +kernel
theorem dX4_lastOnDuty_45 : decode cX4_lastOnDuty 45 = .ok (.iload_n 3, 1) := by decide +kernel
theorem dX4_lastOnDuty_46 : decode cX4_lastOnDuty 46 = .ok (.aload 5, 2) := by decide +kernel
theorem dX4_lastOnDuty_48 : decode cX4_lastOnDuty 48 = .ok (.getfield 211, 3) := by decide +kernel
theorem dX4_lastOnDuty_51 : decode cX4_lastOnDuty 51 = .ok (.invokestatic 131, 3) := by decide +kernel
theorem dX4_lastOnDuty_54 : decode cX4_lastOnDuty 54 = .ok (.istore_n 3, 1) := by decide +kernel
theorem dX4_lastOnDuty_55 : decode cX4_lastOnDuty 55 = .ok (.iinc 4 1, 3) := by decide +kernel
