theorem dX5_told_99 : decode cX5_told 99 = .ok (.aload_n 0, 1) := by decide +kernel
theorem dX5_told_100 : decode cX5_told 100 = .ok (.getfield 63, 3) := by decide +kernel
theorem dX5_told_103 : decode cX5_told 103 = .ok (.iload_n 1, 1) := by decide +kernel
theorem dX5_told_104 : decode cX5_told 104 = .ok (.iaload, 1) := by decide +kernel
theorem dX5_told_105 : decode cX5_told 105 = .ok (.ireturn, 1) := by decide +kernel
theorem dX5_told_106 : decode cX5_told 106 = .ok (.aload_n 0, 1) := by decide +kernel
theorem dX5_told_107 : decode cX5_told 107 = .ok (.getfield 72, 3) := by decide +kernel
theorem dX5_told_110 : decode cX5_told 110 = .ok (.iload_n 1, 1) := by decide +kernel
theorem dX5_told_111 : decode cX5_told 111 = .ok (.iaload, 1) := by decide +kernel
theorem dX5_told_112 : decode cX5_told 112 = .ok (.ireturn, 1) := by decide +kernel
theorem dX5_told_113 : decode cX5_told 113 = .ok (.aload_n 0, 1) := by decide +kernel
theorem dX5_told_114 : decode cX5_told 114 = .ok (.getfield 63, 3) := by decide +kernel
theorem dX5_told_117 : decode cX5_told 117 = .ok (.iload_n 1, 1) := by decide +kernel
theorem dX5_told_118 : decode cX5_told 118 = .ok (.iaload, 1) := by decide +kernel
theorem dX5_told_119 : decode cX5_told 119 = .ok (.iconst 1, 1) := by decide +kernel
theorem dX5_told_120 : decode cX5_told 120 = .ok (.if_icmp .ne 11, 3) := by decide +kernel
theorem dX5_told_123 : decode cX5_told 123 = .ok (.aload_n 0, 1) := by decide +kernel
theorem dX5_told_124 : decode cX5_told 124 = .ok (.iload_n 1, 1) := by decide +kernel
theorem dX5_told_125 : decode cX5_told 125 = .ok (.invokevirtual 130, 3) := by decide +kernel
theorem dX5_told_128 : decode cX5_told 128 = .ok (.goto 4, 3) := by decide +kernel
theorem dX5_told_131 : decode cX5_told 131 = .ok (.iconst (-1), 1) := by decide +kernel
theorem dX5_told_132 : decode cX5_told 132 = .ok (.ireturn, 1) := by decide +kernel
theorem dX5_told_133 : decode cX5_told 133 = .ok (.iconst (-1), 1) := by decide +kernel
theorem dX5_told_134 : decode cX5_told 134 = .ok (.ireturn, 1) := by decide +kernel
theorem dX5_leg_0 : decode cX5_leg 0 = .ok (.aload_n 0, 1) := by decide +kernel
theorem dX5_leg_1 : decode cX5_leg 1 = .ok (.iconst 0, 1) := by decide +kernel
theorem dX5_leg_2 : decode cX5_leg 2 = .ok (.putfield 102, 3) := by decide +kernel
theorem dX5_leg_5 : decode cX5_leg 5 = .ok (.aload_n 0, 1) := by decide +kernel
theorem dX5_leg_6 : decode cX5_leg 6 = .ok (.iload_n 1, 1) := by decide +kernel
theorem dX5_leg_7 : decode cX5_leg 7 = .ok (.invokevirtual 157, 3) := by decide +kernel
theorem dX5_leg_10 : decode cX5_leg 10 = .ok (.ifCond .eq 47, 3) := by decide +kernel
theorem dX5_leg_13 : decode cX5_leg 13 = .ok (.iload_n 2, 1) := by decide +kernel
theorem dX5_leg_14 : decode cX5_leg 14 = .ok (.iconst 0, 1) := by decide +kernel
theorem dX5_leg_15 : decode cX5_leg 15 = .ok (.aload_n 0, 1) := by decide +kernel
theorem dX5_leg_16 : decode cX5_leg 16 = .ok (.getfield 72, 3) := by decide +kernel
theorem dX5_leg_19 : decode cX5_leg 19 = .ok (.iload_n 1, 1) := by decide +kernel
theorem dX5_leg_20 : decode cX5_leg 20 = .ok (.iaload, 1) := by decide +kernel
theorem dX5_leg_21 : decode cX5_leg 21 = .ok (.iconst 1, 1) := by decide +kernel
theorem dX5_leg_22 : decode cX5_leg 22 = .ok (.isub, 1) := by decide +kernel
theorem dX5_leg_23 : decode cX5_leg 23 = .ok (.invokestatic 108, 3) := by decide +kernel
theorem dX5_leg_26 : decode cX5_leg 26 = .ok (.ifCond .eq 31, 3) := by decide +kernel
theorem dX5_leg_29 : decode cX5_leg 29 = .ok (.iload_n 3, 1) := by decide +kernel
theorem dX5_leg_30 : decode cX5_leg 30 = .ok (.iconst 0, 1) := by decide +kernel
theorem dX5_leg_31 : decode cX5_leg 31 = .ok (.iconst 5, 1) := by decide +kernel
theorem dX5_leg_32 : decode cX5_leg 32 = .ok (.invokestatic 108, 3) := by decide +kernel
theorem dX5_leg_35 : decode cX5_leg 35 = .ok (.ifCond .eq 22, 3) := by decide +kernel
theorem dX5_leg_38 : decode cX5_leg 38 = .ok (.aload_n 0, 1) := by decide +kernel
theorem dX5_leg_39 : decode cX5_leg 39 = .ok (.getfield 69, 3) := by decide +kernel
theorem dX5_leg_42 : decode cX5_leg 42 = .ok (.bipush 8, 2) := by decide +kernel
theorem dX5_leg_44 : decode cX5_leg 44 = .ok (.bipush 24, 2) := by decide +kernel
theorem dX5_leg_46 : decode cX5_leg 46 = .ok (.iload_n 1, 1) := by decide +kernel
theorem dX5_leg_47 : decode cX5_leg 47 = .ok (.imul, 1) := by decide +kernel
theorem dX5_leg_48 : decode cX5_leg 48 = .ok (.iload_n 2, 1) := by decide +kernel
theorem dX5_leg_49 : decode cX5_leg 49 = .ok (.iadd, 1) := by decide +kernel
theorem dX5_leg_50 : decode cX5_leg 50 = .ok (.imul, 1) := by decide +kernel
theorem dX5_leg_51 : decode cX5_leg 51 = .ok (.iload_n 3, 1) := by decide +kernel
theorem dX5_leg_52 : decode cX5_leg 52 = .ok (.iadd, 1) := by decide +kernel
theorem dX5_leg_53 : decode cX5_leg 53 = .ok (.iaload, 1) := by decide +kernel
theorem dX5_leg_54 : decode cX5_leg 54 = .ok (.goto 4, 3) := by decide +kernel
theorem dX5_leg_57 : decode cX5_leg 57 = .ok (.iconst (-1), 1) := by decide +kernel
theorem dX5_leg_58 : decode cX5_leg 58 = .ok (.ireturn, 1) := by decide +kernel
theorem dX5_hand_0 : decode cX5_hand 0 = .ok (.aload_n 0, 1) := by decide +kernel
theorem dX5_hand_1 : decode cX5_hand 1 = .ok (.iconst 0, 1) := by decide +kernel
theorem dX5_hand_2 : decode cX5_hand 2 = .ok (.putfield 102, 3) := by decide +kernel
theorem dX5_hand_5 : decode cX5_hand 5 = .ok (.aload_n 0, 1) := by decide +kernel
theorem dX5_hand_6 : decode cX5_hand 6 = .ok (.iload_n 1, 1) := by decide +kernel
theorem dX5_hand_7 : decode cX5_hand 7 = .ok (.invokevirtual 157, 3) := by decide +kernel
theorem dX5_hand_10 : decode cX5_hand 10 = .ok (.ifCond .eq 23, 3) := by decide +kernel
theorem dX5_hand_13 : decode cX5_hand 13 = .ok (.aload_n 0, 1) := by decide +kernel
theorem dX5_hand_14 : decode cX5_hand 14 = .ok (.getfield 63, 3) := by decide +kernel
theorem dX5_hand_17 : decode cX5_hand 17 = .ok (.iload_n 1, 1) := by decide +kernel
theorem dX5_hand_18 : decode cX5_hand 18 = .ok (.iaload, 1) := by decide +kernel
theorem dX5_hand_19 : decode cX5_hand 19 = .ok (.ifCond .eq 14, 3) := by decide +kernel
theorem dX5_hand_22 : decode cX5_hand 22 = .ok (.iload_n 2, 1) := by decide +kernel
theorem dX5_hand_23 : decode cX5_hand 23 = .ok (.iconst 0, 1) := by decide +kernel
theorem dX5_hand_24 : decode cX5_hand 24 = .ok (.sipush 4319, 3) := by decide +kernel
theorem dX5_hand_27 : decode cX5_hand 27 = .ok (.invokestatic 108, 3) := by decide +kernel
theorem dX5_hand_30 : decode cX5_hand 30 = .ok (.ifCond .ne 5, 3) := by decide +kernel
theorem dX5_hand_33 : decode cX5_hand 33 = .ok (.iconst (-1), 1) := by decide +kernel
theorem dX5_hand_34 : decode cX5_hand 34 = .ok (.ireturn, 1) := by decide +kernel
theorem dX5_hand_35 : decode cX5_hand 35 = .ok (.iload_n 2, 1) := by decide +kernel
theorem dX5_hand_36 : decode cX5_hand 36 = .ok (.aload_n 0, 1) := by decide +kernel
theorem dX5_hand_37 : decode cX5_hand 37 = .ok (.iload_n 1, 1) := by decide +kernel
theorem dX5_hand_38 : decode cX5_hand 38 = .ok (.invokevirtual 130, 3) := by decide +kernel
theorem dX5_hand_41 : decode cX5_hand 41 = .ok (.if_icmp .le 6, 3) := by decide +kernel
theorem dX5_hand_44 : decode cX5_hand 44 = .ok (.bipush (-3), 2) := by decide +kernel
theorem dX5_hand_46 : decode cX5_hand 46 = .ok (.ireturn, 1) := by decide +kernel
theorem dX5_hand_47 : decode cX5_hand 47 = .ok (.bipush (-2), 2) := by decide +kernel
theorem dX5_hand_49 : decode cX5_hand 49 = .ok (.istore_n 3, 1) := by decide +kernel
theorem dX5_hand_50 : decode cX5_hand 50 = .ok (.iconst 0, 1) := by decide +kernel
theorem dX5_hand_51 : decode cX5_hand 51 = .ok (.istore 4, 2) := by decide +kernel
theorem dX5_hand_53 : decode cX5_hand 53 = .ok (.iload 4, 2) := by decide +kernel
theorem dX5_hand_55 : decode cX5_hand 55 = .ok (.aload_n 0, 1) := by decide +kernel
theorem dX5_hand_56 : decode cX5_hand 56 = .ok (.getfield 72, 3) := by decide +kernel
theorem dX5_hand_59 : decode cX5_hand 59 = .ok (.iload_n 1, 1) := by decide +kernel
theorem dX5_hand_60 : decode cX5_hand 60 = .ok (.iaload, 1) := by decide +kernel
theorem dX5_hand_61 : decode cX5_hand 61 = .ok (.if_icmp .ge 46, 3) := by decide +kernel
theorem dX5_hand_64 : decode cX5_hand 64 = .ok (.aload_n 0, 1) := by decide +kernel
theorem dX5_hand_65 : decode cX5_hand 65 = .ok (.getfield 69, 3) := by decide +kernel
theorem dX5_hand_68 : decode cX5_hand 68 = .ok (.bipush 8, 2) := by decide +kernel
theorem dX5_hand_70 : decode cX5_hand 70 = .ok (.bipush 24, 2) := by decide +kernel
theorem dX5_hand_72 : decode cX5_hand 72 = .ok (.iload_n 1, 1) := by decide +kernel
theorem dX5_hand_73 : decode cX5_hand 73 = .ok (.imul, 1) := by decide +kernel
theorem dX5_hand_74 : decode cX5_hand 74 = .ok (.iload 4, 2) := by decide +kernel
theorem dX5_hand_76 : decode cX5_hand 76 = .ok (.iadd, 1) := by decide +kernel
theorem dX5_hand_77 : decode cX5_hand 77 = .ok (.imul, 1) := by decide +kernel
theorem dX5_hand_78 : decode cX5_hand 78 = .ok (.iconst 3, 1) := by decide +kernel
theorem dX5_hand_79 : decode cX5_hand 79 = .ok (.iadd, 1) := by decide +kernel
theorem dX5_hand_80 : decode cX5_hand 80 = .ok (.iaload, 1) := by decide +kernel
theorem dX5_hand_81 : decode cX5_hand 81 = .ok (.iload_n 2, 1) := by decide +kernel
theorem dX5_hand_82 : decode cX5_hand 82 = .ok (.if_icmp .gt 19, 3) := by decide +kernel
theorem dX5_hand_85 : decode cX5_hand 85 = .ok (.aload_n 0, 1) := by decide +kernel
theorem dX5_hand_86 : decode cX5_hand 86 = .ok (.getfield 69, 3) := by decide +kernel
theorem dX5_hand_89 : decode cX5_hand 89 = .ok (.bipush 8, 2) := by decide +kernel
theorem dX5_hand_91 : decode cX5_hand 91 = .ok (.bipush 24, 2) := by decide +kernel
theorem dX5_hand_93 : decode cX5_hand 93 = .ok (.iload_n 1, 1) := by decide +kernel
theorem dX5_hand_94 : decode cX5_hand 94 = .ok (.imul, 1) := by decide +kernel
theorem dX5_hand_95 : decode cX5_hand 95 = .ok (.iload 4, 2) := by decide +kernel
theorem dX5_hand_97 : decode cX5_hand 97 = .ok (.iadd, 1) := by decide +kernel
theorem dX5_hand_98 : decode cX5_hand 98 = .ok (.imul, 1) := by decide +kernel
theorem dX5_hand_99 : decode cX5_hand 99 = .ok (.iaload, 1) := by decide +kernel
theorem dX5_hand_100 : decode cX5_hand 100 = .ok (.istore_n 3, 1) := by decide +kernel
theorem dX5_hand_101 : decode cX5_hand 101 = .ok (.iinc 4 1, 3) := by decide +kernel
theorem dX5_hand_104 : decode cX5_hand 104 = .ok (.goto (-51), 3) := by decide +kernel
theorem dX5_hand_107 : decode cX5_hand 107 = .ok (.iload_n 3, 1) := by decide +kernel
theorem dX5_hand_108 : decode cX5_hand 108 = .ok (.ireturn, 1) := by decide +kernel
theorem dX5_fail_0 : decode cX5_fail 0 = .ok (.aload_n 0, 1) := by decide +kernel
theorem dX5_fail_1 : decode cX5_fail 1 = .ok (.iconst 0, 1) := by decide +kernel
theorem dX5_fail_2 : decode cX5_fail 2 = .ok (.putfield 102, 3) := by decide +kernel
theorem dX5_fail_5 : decode cX5_fail 5 = .ok (.aload_n 0, 1) := by decide +kernel
theorem dX5_fail_6 : decode cX5_fail 6 = .ok (.iload_n 1, 1) := by decide +kernel
theorem dX5_fail_7 : decode cX5_fail 7 = .ok (.invokevirtual 157, 3) := by decide +kernel
theorem dX5_fail_10 : decode cX5_fail 10 = .ok (.ifCond .eq 27, 3) := by decide +kernel
theorem dX5_fail_13 : decode cX5_fail 13 = .ok (.iload_n 1, 1) := by decide +kernel
theorem dX5_fail_14 : decode cX5_fail 14 = .ok (.aload_n 0, 1) := by decide +kernel
theorem dX5_fail_15 : decode cX5_fail 15 = .ok (.getfield 66, 3) := by decide +kernel
theorem dX5_fail_18 : decode cX5_fail 18 = .ok (.if_icmp .ne 19, 3) := by decide +kernel
theorem dX5_fail_21 : decode cX5_fail 21 = .ok (.iload_n 2, 1) := by decide +kernel
theorem dX5_fail_22 : decode cX5_fail 22 = .ok (.iconst 0, 1) := by decide +kernel
theorem dX5_fail_23 : decode cX5_fail 23 = .ok (.aload_n 0, 1) := by decide +kernel
theorem dX5_fail_24 : decode cX5_fail 24 = .ok (.getfield 72, 3) := by decide +kernel
theorem dX5_fail_27 : decode cX5_fail 27 = .ok (.iload_n 1, 1) := by decide +kernel
theorem dX5_fail_28 : decode cX5_fail 28 = .ok (.iaload, 1) := by decide +kernel
theorem dX5_fail_29 : decode cX5_fail 29 = .ok (.iconst 1, 1) := by decide +kernel
theorem dX5_fail_30 : decode cX5_fail 30 = .ok (.isub, 1) := by decide +kernel
theorem dX5_fail_31 : decode cX5_fail 31 = .ok (.invokestatic 108, 3) := by decide +kernel
theorem dX5_fail_34 : decode cX5_fail 34 = .ok (.ifCond .ne 5, 3) := by decide +kernel
theorem dX5_fail_37 : decode cX5_fail 37 = .ok (.iconst (-1), 1) := by decide +kernel
theorem dX5_fail_38 : decode cX5_fail 38 = .ok (.ireturn, 1) := by decide +kernel
theorem dX5_fail_39 : decode cX5_fail 39 = .ok (.bipush 8, 2) := by decide +kernel
theorem dX5_fail_41 : decode cX5_fail 41 = .ok (.bipush 24, 2) := by decide +kernel
theorem dX5_fail_43 : decode cX5_fail 43 = .ok (.iload_n 1, 1) := by decide +kernel
theorem dX5_fail_44 : decode cX5_fail 44 = .ok (.imul, 1) := by decide +kernel
theorem dX5_fail_45 : decode cX5_fail 45 = .ok (.iload_n 2, 1) := by decide +kernel
theorem dX5_fail_46 : decode cX5_fail 46 = .ok (.iadd, 1) := by decide +kernel
theorem dX5_fail_47 : decode cX5_fail 47 = .ok (.imul, 1) := by decide +kernel
theorem dX5_fail_48 : decode cX5_fail 48 = .ok (.istore 4, 2) := by decide +kernel
theorem dX5_fail_50 : decode cX5_fail 50 = .ok (.iload_n 3, 1) := by decide +kernel
theorem dX5_fail_51 : decode cX5_fail 51 = .ok (.aload_n 0, 1) := by decide +kernel
theorem dX5_fail_52 : decode cX5_fail 52 = .ok (.getfield 69, 3) := by decide +kernel
theorem dX5_fail_55 : decode cX5_fail 55 = .ok (.iload 4, 2) := by decide +kernel
theorem dX5_fail_57 : decode cX5_fail 57 = .ok (.iconst 3, 1) := by decide +kernel
theorem dX5_fail_58 : decode cX5_fail 58 = .ok (.iadd, 1) := by decide +kernel
theorem dX5_fail_59 : decode cX5_fail 59 = .ok (.iaload, 1) := by decide +kernel
theorem dX5_fail_60 : decode cX5_fail 60 = .ok (.aload_n 0, 1) := by decide +kernel
theorem dX5_fail_61 : decode cX5_fail 61 = .ok (.getfield 69, 3) := by decide +kernel
theorem dX5_fail_64 : decode cX5_fail 64 = .ok (.iload 4, 2) := by decide +kernel
theorem dX5_fail_66 : decode cX5_fail 66 = .ok (.iconst 4, 1) := by decide +kernel
theorem dX5_fail_67 : decode cX5_fail 67 = .ok (.iadd, 1) := by decide +kernel
theorem dX5_fail_68 : decode cX5_fail 68 = .ok (.iaload, 1) := by decide +kernel
theorem dX5_fail_69 : decode cX5_fail 69 = .ok (.invokestatic 108, 3) := by decide +kernel
theorem dX5_fail_72 : decode cX5_fail 72 = .ok (.ifCond .ne 5, 3) := by decide +kernel
theorem dX5_fail_75 : decode cX5_fail 75 = .ok (.iconst (-1), 1) := by decide +kernel
theorem dX5_fail_76 : decode cX5_fail 76 = .ok (.ireturn, 1) := by decide +kernel
theorem dX5_fail_77 : decode cX5_fail 77 = .ok (.iload_n 2, 1) := by decide +kernel
theorem dX5_fail_78 : decode cX5_fail 78 = .ok (.istore 5, 2) := by decide +kernel
theorem dX5_fail_80 : decode cX5_fail 80 = .ok (.iload 5, 2) := by decide +kernel
theorem dX5_fail_82 : decode cX5_fail 82 = .ok (.aload_n 0, 1) := by decide +kernel
theorem dX5_fail_83 : decode cX5_fail 83 = .ok (.getfield 72, 3) := by decide +kernel
theorem dX5_fail_86 : decode cX5_fail 86 = .ok (.iload_n 1, 1) := by decide +kernel
theorem dX5_fail_87 : decode cX5_fail 87 = .ok (.iaload, 1) := by decide +kernel
theorem dX5_fail_88 : decode cX5_fail 88 = .ok (.if_icmp .ge 32, 3) := by decide +kernel
theorem dX5_fail_91 : decode cX5_fail 91 = .ok (.aload_n 0, 1) := by decide +kernel
theorem dX5_fail_92 : decode cX5_fail 92 = .ok (.getfield 69, 3) := by decide +kernel
theorem dX5_fail_95 : decode cX5_fail 95 = .ok (.bipush 8, 2) := by decide +kernel
theorem dX5_fail_97 : decode cX5_fail 97 = .ok (.bipush 24, 2) := by decide +kernel
theorem dX5_fail_99 : decode cX5_fail 99 = .ok (.iload_n 1, 1) := by decide +kernel
theorem dX5_fail_100 : decode cX5_fail 100 = .ok (.imul, 1) := by decide +kernel
theorem dX5_fail_101 : decode cX5_fail 101 = .ok (.iload 5, 2) := by decide +kernel
theorem dX5_fail_103 : decode cX5_fail 103 = .ok (.iadd, 1) := by decide +kernel
theorem dX5_fail_104 : decode cX5_fail 104 = .ok (.imul, 1) := by decide +kernel
theorem dX5_fail_105 : decode cX5_fail 105 = .ok (.iconst 5, 1) := by decide +kernel
theorem dX5_fail_106 : decode cX5_fail 106 = .ok (.iadd, 1) := by decide +kernel
theorem dX5_fail_107 : decode cX5_fail 107 = .ok (.iaload, 1) := by decide +kernel
theorem dX5_fail_108 : decode cX5_fail 108 = .ok (.iconst 1, 1) := by decide +kernel
theorem dX5_fail_109 : decode cX5_fail 109 = .ok (.if_icmp .ne 5, 3) := by decide +kernel
theorem dX5_fail_112 : decode cX5_fail 112 = .ok (.iconst (-1), 1) := by decide +kernel
theorem dX5_fail_113 : decode cX5_fail 113 = .ok (.ireturn, 1) := by decide +kernel
theorem dX5_fail_114 : decode cX5_fail 114 = .ok (.iinc 5 1, 3) := by decide +kernel
theorem dX5_fail_117 : decode cX5_fail 117 = .ok (.goto (-37), 3) := by decide +kernel
theorem dX5_fail_120 : decode cX5_fail 120 = .ok (.aload_n 0, 1) := by decide +kernel
theorem dX5_fail_121 : decode cX5_fail 121 = .ok (.getfield 72, 3) := by decide +kernel
theorem dX5_fail_124 : decode cX5_fail 124 = .ok (.iload_n 1, 1) := by decide +kernel
theorem dX5_fail_125 : decode cX5_fail 125 = .ok (.iaload, 1) := by decide +kernel
theorem dX5_fail_126 : decode cX5_fail 126 = .ok (.iconst 1, 1) := by decide +kernel
theorem dX5_fail_127 : decode cX5_fail 127 = .ok (.isub, 1) := by decide +kernel
theorem dX5_fail_128 : decode cX5_fail 128 = .ok (.istore 5, 2) := by decide +kernel
theorem dX5_fail_130 : decode cX5_fail 130 = .ok (.iload 5, 2) := by decide +kernel
theorem dX5_fail_132 : decode cX5_fail 132 = .ok (.iload_n 2, 1) := by decide +kernel
theorem dX5_fail_133 : decode cX5_fail 133 = .ok (.if_icmp .le 104, 3) := by decide +kernel
theorem dX5_fail_136 : decode cX5_fail 136 = .ok (.bipush 8, 2) := by decide +kernel
theorem dX5_fail_138 : decode cX5_fail 138 = .ok (.bipush 24, 2) := by decide +kernel
theorem dX5_fail_140 : decode cX5_fail 140 = .ok (.iload_n 1, 1) := by decide +kernel
theorem dX5_fail_141 : decode cX5_fail 141 = .ok (.imul, 1) := by decide +kernel
theorem dX5_fail_142 : decode cX5_fail 142 = .ok (.iload 5, 2) := by decide +kernel
theorem dX5_fail_144 : decode cX5_fail 144 = .ok (.iadd, 1) := by decide +kernel
theorem dX5_fail_145 : decode cX5_fail 145 = .ok (.imul, 1) := by decide +kernel
theorem dX5_fail_146 : decode cX5_fail 146 = .ok (.istore 6, 2) := by decide +kernel
theorem dX5_fail_148 : decode cX5_fail 148 = .ok (.aload_n 0, 1) := by decide +kernel
theorem dX5_fail_149 : decode cX5_fail 149 = .ok (.getfield 69, 3) := by decide +kernel
theorem dX5_fail_152 : decode cX5_fail 152 = .ok (.iload 6, 2) := by decide +kernel
theorem dX5_fail_154 : decode cX5_fail 154 = .ok (.iaload, 1) := by decide +kernel
theorem dX5_fail_155 : decode cX5_fail 155 = .ok (.istore 7, 2) := by decide +kernel
theorem dX5_fail_157 : decode cX5_fail 157 = .ok (.aload_n 0, 1) := by decide +kernel
theorem dX5_fail_158 : decode cX5_fail 158 = .ok (.getfield 28, 3) := by decide +kernel
theorem dX5_fail_161 : decode cX5_fail 161 = .ok (.iload 7, 2) := by decide +kernel
theorem dX5_fail_163 : decode cX5_fail 163 = .ok (.aload_n 0, 1) := by decide +kernel
theorem dX5_fail_164 : decode cX5_fail 164 = .ok (.getfield 69, 3) := by decide +kernel
theorem dX5_fail_167 : decode cX5_fail 167 = .ok (.iload 6, 2) := by decide +kernel
theorem dX5_fail_169 : decode cX5_fail 169 = .ok (.bipush 6, 2) := by decide +kernel
theorem dX5_fail_171 : decode cX5_fail 171 = .ok (.iadd, 1) := by decide +kernel
theorem dX5_fail_172 : decode cX5_fail 172 = .ok (.iaload, 1) := by decide +kernel
theorem dX5_fail_173 : decode cX5_fail 173 = .ok (.iastore, 1) := by decide +kernel
theorem dX5_fail_174 : decode cX5_fail 174 = .ok (.aload_n 0, 1) := by decide +kernel
theorem dX5_fail_175 : decode cX5_fail 175 = .ok (.getfield 31, 3) := by decide +kernel
theorem dX5_fail_178 : decode cX5_fail 178 = .ok (.iload 7, 2) := by decide +kernel
theorem dX5_fail_180 : decode cX5_fail 180 = .ok (.aload_n 0, 1) := by decide +kernel
theorem dX5_fail_181 : decode cX5_fail 181 = .ok (.getfield 69, 3) := by decide +kernel
theorem dX5_fail_184 : decode cX5_fail 184 = .ok (.iload 6, 2) := by decide +kernel
theorem dX5_fail_186 : decode cX5_fail 186 = .ok (.bipush 7, 2) := by decide +kernel
theorem dX5_fail_188 : decode cX5_fail 188 = .ok (.iadd, 1) := by decide +kernel
theorem dX5_fail_189 : decode cX5_fail 189 = .ok (.iaload, 1) := by decide +kernel
theorem dX5_fail_190 : decode cX5_fail 190 = .ok (.iastore, 1) := by decide +kernel
theorem dX5_fail_191 : decode cX5_fail 191 = .ok (.aload_n 0, 1) := by decide +kernel
theorem dX5_fail_192 : decode cX5_fail 192 = .ok (.getfield 38, 3) := by decide +kernel
theorem dX5_fail_195 : decode cX5_fail 195 = .ok (.iload 7, 2) := by decide +kernel
theorem dX5_fail_197 : decode cX5_fail 197 = .ok (.dup2, 1) := by decide +kernel
theorem dX5_fail_198 : decode cX5_fail 198 = .ok (.iaload, 1) := by decide +kernel
theorem dX5_fail_199 : decode cX5_fail 199 = .ok (.iconst 1, 1) := by decide +kernel
theorem dX5_fail_200 : decode cX5_fail 200 = .ok (.isub, 1) := by decide +kernel
theorem dX5_fail_201 : decode cX5_fail 201 = .ok (.iastore, 1) := by decide +kernel
theorem dX5_fail_202 : decode cX5_fail 202 = .ok (.aload_n 0, 1) := by decide +kernel
theorem dX5_fail_203 : decode cX5_fail 203 = .ok (.getfield 41, 3) := by decide +kernel
theorem dX5_fail_206 : decode cX5_fail 206 = .ok (.iload 7, 2) := by decide +kernel
theorem dX5_fail_208 : decode cX5_fail 208 = .ok (.dup2, 1) := by decide +kernel
theorem dX5_fail_209 : decode cX5_fail 209 = .ok (.iaload, 1) := by decide +kernel
theorem dX5_fail_210 : decode cX5_fail 210 = .ok (.aload_n 0, 1) := by decide +kernel
theorem dX5_fail_211 : decode cX5_fail 211 = .ok (.getfield 69, 3) := by decide +kernel
theorem dX5_fail_214 : decode cX5_fail 214 = .ok (.iload 6, 2) := by decide +kernel
theorem dX5_fail_216 : decode cX5_fail 216 = .ok (.iconst 4, 1) := by decide +kernel
theorem dX5_fail_217 : decode cX5_fail 217 = .ok (.iadd, 1) := by decide +kernel
theorem dX5_fail_218 : decode cX5_fail 218 = .ok (.iaload, 1) := by decide +kernel
theorem dX5_fail_219 : decode cX5_fail 219 = .ok (.aload_n 0, 1) := by decide +kernel
theorem dX5_fail_220 : decode cX5_fail 220 = .ok (.getfield 69, 3) := by decide +kernel
theorem dX5_fail_223 : decode cX5_fail 223 = .ok (.iload 6, 2) := by decide +kernel
theorem dX5_fail_225 : decode cX5_fail 225 = .ok (.iconst 3, 1) := by decide +kernel
theorem dX5_fail_226 : decode cX5_fail 226 = .ok (.iadd, 1) := by decide +kernel
theorem dX5_fail_227 : decode cX5_fail 227 = .ok (.iaload, 1) := by decide +kernel
theorem dX5_fail_228 : decode cX5_fail 228 = .ok (.isub, 1) := by decide +kernel
theorem dX5_fail_229 : decode cX5_fail 229 = .ok (.isub, 1) := by decide +kernel
theorem dX5_fail_230 : decode cX5_fail 230 = .ok (.iastore, 1) := by decide +kernel
theorem dX5_fail_231 : decode cX5_fail 231 = .ok (.iinc 5 (-1), 3) := by decide +kernel
theorem dX5_fail_234 : decode cX5_fail 234 = .ok (.goto (-104), 3) := by decide +kernel
theorem dX5_fail_237 : decode cX5_fail 237 = .ok (.aload_n 0, 1) := by decide +kernel
theorem dX5_fail_238 : decode cX5_fail 238 = .ok (.getfield 72, 3) := by decide +kernel
theorem dX5_fail_241 : decode cX5_fail 241 = .ok (.iload_n 1, 1) := by decide +kernel
theorem dX5_fail_242 : decode cX5_fail 242 = .ok (.iload_n 2, 1) := by decide +kernel
theorem dX5_fail_243 : decode cX5_fail 243 = .ok (.iconst 1, 1) := by decide +kernel
theorem dX5_fail_244 : decode cX5_fail 244 = .ok (.iadd, 1) := by decide +kernel
theorem dX5_fail_245 : decode cX5_fail 245 = .ok (.iastore, 1) := by decide +kernel
theorem dX5_fail_246 : decode cX5_fail 246 = .ok (.aload_n 0, 1) := by decide +kernel
theorem dX5_fail_247 : decode cX5_fail 247 = .ok (.getfield 69, 3) := by decide +kernel
theorem dX5_fail_250 : decode cX5_fail 250 = .ok (.iload 4, 2) := by decide +kernel
theorem dX5_fail_252 : decode cX5_fail 252 = .ok (.iaload, 1) := by decide +kernel
theorem dX5_fail_253 : decode cX5_fail 253 = .ok (.istore 5, 2) := by decide +kernel
theorem dX5_fail_255 : decode cX5_fail 255 = .ok (.aload_n 0, 1) := by decide +kernel
theorem dX5_fail_256 : decode cX5_fail 256 = .ok (.getfield 41, 3) := by decide +kernel
theorem dX5_fail_259 : decode cX5_fail 259 = .ok (.iload 5, 2) := by decide +kernel
theorem dX5_fail_261 : decode cX5_fail 261 = .ok (.dup2, 1) := by decide +kernel
theorem dX5_fail_262 : decode cX5_fail 262 = .ok (.iaload, 1) := by decide +kernel
theorem dX5_fail_263 : decode cX5_fail 263 = .ok (.iload_n 3, 1) := by decide +kernel
theorem dX5_fail_264 : decode cX5_fail 264 = .ok (.aload_n 0, 1) := by decide +kernel
theorem dX5_fail_265 : decode cX5_fail 265 = .ok (.getfield 69, 3) := by decide +kernel
theorem dX5_fail_268 : decode cX5_fail 268 = .ok (.iload 4, 2) := by decide +kernel
theorem dX5_fail_270 : decode cX5_fail 270 = .ok (.iconst 4, 1) := by decide +kernel
theorem dX5_fail_271 : decode cX5_fail 271 = .ok (.iadd, 1) := by decide +kernel
theorem dX5_fail_272 : decode cX5_fail 272 = .ok (.iaload, 1) := by decide +kernel
theorem dX5_fail_273 : decode cX5_fail 273 = .ok (.isub, 1) := by decide +kernel
theorem dX5_fail_274 : decode cX5_fail 274 = .ok (.iadd, 1) := by decide +kernel
theorem dX5_fail_275 : decode cX5_fail 275 = .ok (.iastore, 1) := by decide +kernel
theorem dX5_fail_276 : decode cX5_fail 276 = .ok (.aload_n 0, 1) := by decide +kernel
theorem dX5_fail_277 : decode cX5_fail 277 = .ok (.getfield 69, 3) := by decide +kernel
theorem dX5_fail_280 : decode cX5_fail 280 = .ok (.iload 4, 2) := by decide +kernel
theorem dX5_fail_282 : decode cX5_fail 282 = .ok (.iconst 2, 1) := by decide +kernel
theorem dX5_fail_283 : decode cX5_fail 283 = .ok (.iadd, 1) := by decide +kernel
theorem dX5_fail_284 : decode cX5_fail 284 = .ok (.aload_n 0, 1) := by decide +kernel
theorem dX5_fail_285 : decode cX5_fail 285 = .ok (.getfield 69, 3) := by decide +kernel
theorem dX5_fail_288 : decode cX5_fail 288 = .ok (.iload 4, 2) := by decide +kernel
theorem dX5_fail_290 : decode cX5_fail 290 = .ok (.iconst 1, 1) := by decide +kernel
theorem dX5_fail_291 : decode cX5_fail 291 = .ok (.iadd, 1) := by decide +kernel
theorem dX5_fail_292 : decode cX5_fail 292 = .ok (.iaload, 1) := by decide +kernel
theorem dX5_fail_293 : decode cX5_fail 293 = .ok (.iastore, 1) := by decide +kernel
theorem dX5_fail_294 : decode cX5_fail 294 = .ok (.aload_n 0, 1) := by decide +kernel
theorem dX5_fail_295 : decode cX5_fail 295 = .ok (.getfield 69, 3) := by decide +kernel
theorem dX5_fail_298 : decode cX5_fail 298 = .ok (.iload 4, 2) := by decide +kernel
theorem dX5_fail_300 : decode cX5_fail 300 = .ok (.iconst 4, 1) := by decide +kernel
theorem dX5_fail_301 : decode cX5_fail 301 = .ok (.iadd, 1) := by decide +kernel
theorem dX5_fail_302 : decode cX5_fail 302 = .ok (.iload_n 3, 1) := by decide +kernel
theorem dX5_fail_303 : decode cX5_fail 303 = .ok (.iastore, 1) := by decide +kernel
theorem dX5_fail_304 : decode cX5_fail 304 = .ok (.aload_n 0, 1) := by decide +kernel
theorem dX5_fail_305 : decode cX5_fail 305 = .ok (.getfield 69, 3) := by decide +kernel
theorem dX5_fail_308 : decode cX5_fail 308 = .ok (.iload 4, 2) := by decide +kernel
theorem dX5_fail_310 : decode cX5_fail 310 = .ok (.iconst 5, 1) := by decide +kernel
theorem dX5_fail_311 : decode cX5_fail 311 = .ok (.iadd, 1) := by decide +kernel
theorem dX5_fail_312 : decode cX5_fail 312 = .ok (.iconst 1, 1) := by decide +kernel
theorem dX5_fail_313 : decode cX5_fail 313 = .ok (.iastore, 1) := by decide +kernel
theorem dX5_fail_314 : decode cX5_fail 314 = .ok (.aload_n 0, 1) := by decide +kernel
theorem dX5_fail_315 : decode cX5_fail 315 = .ok (.getfield 28, 3) := by decide +kernel
theorem dX5_fail_318 : decode cX5_fail 318 = .ok (.iload 5, 2) := by decide +kernel
theorem dX5_fail_320 : decode cX5_fail 320 = .ok (.aload_n 0, 1) := by decide +kernel
theorem dX5_fail_321 : decode cX5_fail 321 = .ok (.getfield 69, 3) := by decide +kernel
theorem dX5_fail_324 : decode cX5_fail 324 = .ok (.iload 4, 2) := by decide +kernel
theorem dX5_fail_326 : decode cX5_fail 326 = .ok (.iconst 1, 1) := by decide +kernel
theorem dX5_fail_327 : decode cX5_fail 327 = .ok (.iadd, 1) := by decide +kernel
theorem dX5_fail_328 : decode cX5_fail 328 = .ok (.iaload, 1) := by decide +kernel
theorem dX5_fail_329 : decode cX5_fail 329 = .ok (.iastore, 1) := by decide +kernel
theorem dX5_fail_330 : decode cX5_fail 330 = .ok (.aload_n 0, 1) := by decide +kernel
theorem dX5_fail_331 : decode cX5_fail 331 = .ok (.getfield 34, 3) := by decide +kernel
theorem dX5_fail_334 : decode cX5_fail 334 = .ok (.iload 5, 2) := by decide +kernel
theorem dX5_fail_336 : decode cX5_fail 336 = .ok (.iconst 1, 1) := by decide +kernel
theorem dX5_fail_337 : decode cX5_fail 337 = .ok (.bastore, 1) := by decide +kernel
theorem dX5_fail_338 : decode cX5_fail 338 = .ok (.aload_n 0, 1) := by decide +kernel
theorem dX5_fail_339 : decode cX5_fail 339 = .ok (.aload_n 0, 1) := by decide +kernel
theorem dX5_fail_340 : decode cX5_fail 340 = .ok (.getfield 48, 3) := by decide +kernel
theorem dX5_fail_343 : decode cX5_fail 343 = .ok (.iload_n 1, 1) := by decide +kernel
theorem dX5_fail_344 : decode cX5_fail 344 = .ok (.iaload, 1) := by decide +kernel
theorem dX5_fail_345 : decode cX5_fail 345 = .ok (.aload_n 0, 1) := by decide +kernel
theorem dX5_fail_346 : decode cX5_fail 346 = .ok (.getfield 69, 3) := by decide +kernel
theorem dX5_fail_349 : decode cX5_fail 349 = .ok (.iload 4, 2) := by decide +kernel
theorem dX5_fail_351 : decode cX5_fail 351 = .ok (.iconst 1, 1) := by decide +kernel
theorem dX5_fail_352 : decode cX5_fail 352 = .ok (.iadd, 1) := by decide +kernel
theorem dX5_fail_353 : decode cX5_fail 353 = .ok (.iaload, 1) := by decide +kernel
theorem dX5_fail_354 : decode cX5_fail 354 = .ok (.iload_n 3, 1) := by decide +kernel
theorem dX5_fail_355 : decode cX5_fail 355 = .ok (.aload_n 0, 1) := by decide +kernel
theorem dX5_fail_356 : decode cX5_fail 356 = .ok (.getfield 54, 3) := by decide +kernel
theorem dX5_fail_359 : decode cX5_fail 359 = .ok (.iload_n 1, 1) := by decide +kernel
theorem dX5_fail_360 : decode cX5_fail 360 = .ok (.iaload, 1) := by decide +kernel
theorem dX5_fail_361 : decode cX5_fail 361 = .ok (.invokevirtual 160, 3) := by decide +kernel
theorem dX5_fail_364 : decode cX5_fail 364 = .ok (.ifCond .ne 13, 3) := by decide +kernel
theorem dX5_fail_367 : decode cX5_fail 367 = .ok (.aload_n 0, 1) := by decide +kernel
theorem dX5_fail_368 : decode cX5_fail 368 = .ok (.getfield 63, 3) := by decide +kernel
theorem dX5_fail_371 : decode cX5_fail 371 = .ok (.iload_n 1, 1) := by decide +kernel
theorem dX5_fail_372 : decode cX5_fail 372 = .ok (.iconst 2, 1) := by decide +kernel
theorem dX5_fail_373 : decode cX5_fail 373 = .ok (.iastore, 1) := by decide +kernel
theorem dX5_fail_374 : decode cX5_fail 374 = .ok (.bipush (-2), 2) := by decide +kernel
theorem dX5_fail_376 : decode cX5_fail 376 = .ok (.ireturn, 1) := by decide +kernel
theorem dX5_fail_377 : decode cX5_fail 377 = .ok (.aload_n 0, 1) := by decide +kernel
theorem dX5_fail_378 : decode cX5_fail 378 = .ok (.iload_n 1, 1) := by decide +kernel
theorem dX5_fail_379 : decode cX5_fail 379 = .ok (.aload_n 0, 1) := by decide +kernel
theorem dX5_fail_380 : decode cX5_fail 380 = .ok (.getfield 69, 3) := by decide +kernel
theorem dX5_fail_383 : decode cX5_fail 383 = .ok (.iload 4, 2) := by decide +kernel
theorem dX5_fail_385 : decode cX5_fail 385 = .ok (.iconst 1, 1) := by decide +kernel
theorem dX5_fail_386 : decode cX5_fail 386 = .ok (.iadd, 1) := by decide +kernel
theorem dX5_fail_387 : decode cX5_fail 387 = .ok (.iaload, 1) := by decide +kernel
theorem dX5_fail_388 : decode cX5_fail 388 = .ok (.invokevirtual 164, 3) := by decide +kernel
theorem dX5_fail_391 : decode cX5_fail 391 = .ok (.aload_n 0, 1) := by decide +kernel
theorem dX5_fail_392 : decode cX5_fail 392 = .ok (.iload_n 1, 1) := by decide +kernel
theorem dX5_fail_393 : decode cX5_fail 393 = .ok (.invokevirtual 130, 3) := by decide +kernel
theorem dX5_fail_396 : decode cX5_fail 396 = .ok (.ireturn, 1) := by decide +kernel
theorem dX5_next_0 : decode cX5_next 0 = .ok (.aload_n 0, 1) := by decide +kernel
theorem dX5_next_1 : decode cX5_next 1 = .ok (.iconst 0, 1) := by decide +kernel
theorem dX5_next_2 : decode cX5_next 2 = .ok (.putfield 102, 3) := by decide +kernel
theorem dX5_next_5 : decode cX5_next 5 = .ok (.iload_n 1, 1) := by decide +kernel
theorem dX5_next_6 : decode cX5_next 6 = .ok (.iconst 0, 1) := by decide +kernel
theorem dX5_next_7 : decode cX5_next 7 = .ok (.iconst 3, 1) := by decide +kernel
theorem dX5_next_8 : decode cX5_next 8 = .ok (.invokestatic 108, 3) := by decide +kernel
theorem dX5_next_11 : decode cX5_next 11 = .ok (.ifCond .eq 11, 3) := by decide +kernel
theorem dX5_next_14 : decode cX5_next 14 = .ok (.aload_n 0, 1) := by decide +kernel
theorem dX5_next_15 : decode cX5_next 15 = .ok (.iload_n 2, 1) := by decide +kernel
theorem dX5_next_16 : decode cX5_next 16 = .ok (.invokevirtual 118, 3) := by decide +kernel
theorem dX5_next_19 : decode cX5_next 19 = .ok (.ifCond .ne 5, 3) := by decide +kernel
theorem dX5_next_22 : decode cX5_next 22 = .ok (.iconst (-1), 1) := by decide +kernel
theorem dX5_next_23 : decode cX5_next 23 = .ok (.ireturn, 1) := by decide +kernel
theorem dX5_next_24 : decode cX5_next 24 = .ok (.iconst (-1), 1) := by decide +kernel
theorem dX5_next_25 : decode cX5_next 25 = .ok (.istore_n 3, 1) := by decide +kernel
theorem dX5_next_26 : decode cX5_next 26 = .ok (.iconst 0, 1) := by decide +kernel
theorem dX5_next_27 : decode cX5_next 27 = .ok (.istore 4, 2) := by decide +kernel
theorem dX5_next_29 : decode cX5_next 29 = .ok (.iconst 0, 1) := by decide +kernel
theorem dX5_next_30 : decode cX5_next 30 = .ok (.istore 5, 2) := by decide +kernel
theorem dX5_next_32 : decode cX5_next 32 = .ok (.iload 5, 2) := by decide +kernel
theorem dX5_next_34 : decode cX5_next 34 = .ok (.aload_n 0, 1) := by decide +kernel
theorem dX5_next_35 : decode cX5_next 35 = .ok (.getfield 112, 3) := by decide +kernel
theorem dX5_next_38 : decode cX5_next 38 = .ok (.if_icmp .ge 133, 3) := by decide +kernel
theorem dX5_next_41 : decode cX5_next 41 = .ok (.aload_n 0, 1) := by decide +kernel
theorem dX5_next_42 : decode cX5_next 42 = .ok (.iload 5, 2) := by decide +kernel
theorem dX5_next_44 : decode cX5_next 44 = .ok (.aload_n 0, 1) := by decide +kernel
theorem dX5_next_45 : decode cX5_next 45 = .ok (.getfield 28, 3) := by decide +kernel
theorem dX5_next_48 : decode cX5_next 48 = .ok (.iload 5, 2) := by decide +kernel
theorem dX5_next_50 : decode cX5_next 50 = .ok (.iaload, 1) := by decide +kernel
theorem dX5_next_51 : decode cX5_next 51 = .ok (.iload_n 2, 1) := by decide +kernel
theorem dX5_next_52 : decode cX5_next 52 = .ok (.invokevirtual 126, 3) := by decide +kernel
theorem dX5_next_55 : decode cX5_next 55 = .ok (.istore 6, 2) := by decide +kernel
theorem dX5_next_57 : decode cX5_next 57 = .ok (.aload_n 0, 1) := by decide +kernel
theorem dX5_next_58 : decode cX5_next 58 = .ok (.iload 5, 2) := by decide +kernel
theorem dX5_next_60 : decode cX5_next 60 = .ok (.iload_n 1, 1) := by decide +kernel
theorem dX5_next_61 : decode cX5_next 61 = .ok (.invokevirtual 134, 3) := by decide +kernel
theorem dX5_next_64 : decode cX5_next 64 = .ok (.ifCond .eq 101, 3) := by decide +kernel
theorem dX5_next_67 : decode cX5_next 67 = .ok (.iload 6, 2) := by decide +kernel
theorem dX5_next_69 : decode cX5_next 69 = .ok (.ldc 122, 2) := by decide +kernel
theorem dX5_next_71 : decode cX5_next 71 = .ok (.if_icmp .ne 6, 3) := by decide +kernel
theorem dX5_next_74 : decode cX5_next 74 = .ok (.goto 91, 3) := by decide +kernel
theorem dX5_next_77 : decode cX5_next 77 = .ok (.aload_n 0, 1) := by decide +kernel
theorem dX5_next_78 : decode cX5_next 78 = .ok (.getfield 31, 3) := by decide +kernel
theorem dX5_next_81 : decode cX5_next 81 = .ok (.iload 5, 2) := by decide +kernel
theorem dX5_next_83 : decode cX5_next 83 = .ok (.iaload, 1) := by decide +kernel
theorem dX5_next_84 : decode cX5_next 84 = .ok (.aload_n 0, 1) := by decide +kernel
theorem dX5_next_85 : decode cX5_next 85 = .ok (.getfield 19, 3) := by decide +kernel
theorem dX5_next_88 : decode cX5_next 88 = .ok (.iload 5, 2) := by decide +kernel
theorem dX5_next_90 : decode cX5_next 90 = .ok (.iaload, 1) := by decide +kernel
theorem dX5_next_91 : decode cX5_next 91 = .ok (.invokestatic 145, 3) := by decide +kernel
theorem dX5_next_94 : decode cX5_next 94 = .ok (.iload 6, 2) := by decide +kernel
theorem dX5_next_96 : decode cX5_next 96 = .ok (.iadd, 1) := by decide +kernel
theorem dX5_next_97 : decode cX5_next 97 = .ok (.istore 7, 2) := by decide +kernel
theorem dX5_next_99 : decode cX5_next 99 = .ok (.iload 7, 2) := by decide +kernel
theorem dX5_next_101 : decode cX5_next 101 = .ok (.aload_n 0, 1) := by decide +kernel
theorem dX5_next_102 : decode cX5_next 102 = .ok (.getfield 22, 3) := by decide +kernel
theorem dX5_next_105 : decode cX5_next 105 = .ok (.iload 5, 2) := by decide +kernel
theorem dX5_next_107 : decode cX5_next 107 = .ok (.iaload, 1) := by decide +kernel
theorem dX5_next_108 : decode cX5_next 108 = .ok (.if_icmp .gt 57, 3) := by decide +kernel
theorem dX5_next_111 : decode cX5_next 111 = .ok (.iload_n 3, 1) := by decide +kernel
theorem dX5_next_112 : decode cX5_next 112 = .ok (.iconst (-1), 1) := by decide +kernel
theorem dX5_next_113 : decode cX5_next 113 = .ok (.if_icmp .eq 45, 3) := by decide +kernel
theorem dX5_next_116 : decode cX5_next 116 = .ok (.aload_n 0, 1) := by decide +kernel
theorem dX5_next_117 : decode cX5_next 117 = .ok (.getfield 38, 3) := by decide +kernel
theorem dX5_next_120 : decode cX5_next 120 = .ok (.iload 5, 2) := by decide +kernel
theorem dX5_next_122 : decode cX5_next 122 = .ok (.iaload, 1) := by decide +kernel
theorem dX5_next_123 : decode cX5_next 123 = .ok (.aload_n 0, 1) := by decide +kernel
theorem dX5_next_124 : decode cX5_next 124 = .ok (.getfield 38, 3) := by decide +kernel
theorem dX5_next_127 : decode cX5_next 127 = .ok (.iload_n 3, 1) := by decide +kernel
theorem dX5_next_128 : decode cX5_next 128 = .ok (.iaload, 1) := by decide +kernel
theorem dX5_next_129 : decode cX5_next 129 = .ok (.if_icmp .gt 36, 3) := by decide +kernel
theorem dX5_next_132 : decode cX5_next 132 = .ok (.aload_n 0, 1) := by decide +kernel
theorem dX5_next_133 : decode cX5_next 133 = .ok (.getfield 38, 3) := by decide +kernel
theorem dX5_next_136 : decode cX5_next 136 = .ok (.iload 5, 2) := by decide +kernel
theorem dX5_next_138 : decode cX5_next 138 = .ok (.iaload, 1) := by decide +kernel
theorem dX5_next_139 : decode cX5_next 139 = .ok (.aload_n 0, 1) := by decide +kernel
theorem dX5_next_140 : decode cX5_next 140 = .ok (.getfield 38, 3) := by decide +kernel
theorem dX5_next_143 : decode cX5_next 143 = .ok (.iload_n 3, 1) := by decide +kernel
theorem dX5_next_144 : decode cX5_next 144 = .ok (.iaload, 1) := by decide +kernel
theorem dX5_next_145 : decode cX5_next 145 = .ok (.if_icmp .ne 13, 3) := by decide +kernel
theorem dX5_next_148 : decode cX5_next 148 = .ok (.iload 7, 2) := by decide +kernel
theorem dX5_next_150 : decode cX5_next 150 = .ok (.iload 4, 2) := by decide +kernel
theorem dX5_next_152 : decode cX5_next 152 = .ok (.if_icmp .lt 6, 3) := by decide +kernel
theorem dX5_next_155 : decode cX5_next 155 = .ok (.goto 10, 3) := by decide +kernel
theorem dX5_next_158 : decode cX5_next 158 = .ok (.iload 5, 2) := by decide +kernel
theorem dX5_next_160 : decode cX5_next 160 = .ok (.istore_n 3, 1) := by decide +kernel
theorem dX5_next_161 : decode cX5_next 161 = .ok (.iload 7, 2) := by decide +kernel
theorem dX5_next_163 : decode cX5_next 163 = .ok (.istore 4, 2) := by decide +kernel
theorem dX5_next_165 : decode cX5_next 165 = .ok (.iinc 5 1, 3) := by decide +kernel
theorem dX5_next_168 : decode cX5_next 168 = .ok (.goto (-136), 3) := by decide +kernel
theorem dX5_next_171 : decode cX5_next 171 = .ok (.iload_n 3, 1) := by decide +kernel
theorem dX5_next_172 : decode cX5_next 172 = .ok (.ireturn, 1) := by decide +kernel
