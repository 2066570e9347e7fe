theorem dX5_way_40 : decode cX5_way 40 = .ok (.iload 4, 2) := by decide +kernel
theorem dX5_way_42 : decode cX5_way 42 = .ok (.ldc 122, 2) := by decide +kernel
theorem dX5_way_44 : decode cX5_way 44 = .ok (.if_icmp .ne 7, 3) := by decide +kernel
theorem dX5_way_47 : decode cX5_way 47 = .ok (.iconst (-1), 1) := by decide +kernel
theorem dX5_way_48 : decode cX5_way 48 = .ok (.goto 5, 3) := by decide +kernel
theorem dX5_way_51 : decode cX5_way 51 = .ok (.iload 4, 2) := by decide +kernel
theorem dX5_way_53 : decode cX5_way 53 = .ok (.ireturn, 1) := by decide +kernel
theorem dX5_endOf_0 : decode cX5_endOf 0 = .ok (.aload_n 0, 1) := by decide +kernel
theorem dX5_endOf_1 : decode cX5_endOf 1 = .ok (.getfield 69, 3) := by decide +kernel
theorem dX5_endOf_4 : decode cX5_endOf 4 = .ok (.bipush 8, 2) := by decide +kernel
theorem dX5_endOf_6 : decode cX5_endOf 6 = .ok (.bipush 24, 2) := by decide +kernel
theorem dX5_endOf_8 : decode cX5_endOf 8 = .ok (.iload_n 1, 1) := by decide +kernel
theorem dX5_endOf_9 : decode cX5_endOf 9 = .ok (.imul, 1) := by decide +kernel
theorem dX5_endOf_10 : decode cX5_endOf 10 = .ok (.aload_n 0, 1) := by decide +kernel
theorem dX5_endOf_11 : decode cX5_endOf 11 = .ok (.getfield 72, 3) := by decide +kernel
theorem dX5_endOf_14 : decode cX5_endOf 14 = .ok (.iload_n 1, 1) := by decide +kernel
theorem dX5_endOf_15 : decode cX5_endOf 15 = .ok (.iaload, 1) := by decide +kernel
theorem dX5_endOf_16 : decode cX5_endOf 16 = .ok (.iadd, 1) := by decide +kernel
theorem dX5_endOf_17 : decode cX5_endOf 17 = .ok (.iconst 1, 1) := by decide +kernel
theorem dX5_endOf_18 : decode cX5_endOf 18 = .ok (.isub, 1) := by decide +kernel
theorem dX5_endOf_19 : decode cX5_endOf 19 = .ok (.imul, 1) := by decide +kernel
theorem dX5_endOf_20 : decode cX5_endOf 20 = .ok (.iconst 4, 1) := by decide +kernel
theorem dX5_endOf_21 : decode cX5_endOf 21 = .ok (.iadd, 1) := by decide +kernel
theorem dX5_endOf_22 : decode cX5_endOf 22 = .ok (.iaload, 1) := by decide +kernel
theorem dX5_endOf_23 : decode cX5_endOf 23 = .ok (.ireturn, 1) := by decide +kernel
theorem dX5_count_0 : decode cX5_count 0 = .ok (.aload_n 0, 1) := by decide +kernel
theorem dX5_count_1 : decode cX5_count 1 = .ok (.iconst 0, 1) := by decide +kernel
theorem dX5_count_2 : decode cX5_count 2 = .ok (.putfield 102, 3) := by decide +kernel
theorem dX5_count_5 : decode cX5_count 5 = .ok (.iconst 0, 1) := by decide +kernel
theorem dX5_count_6 : decode cX5_count 6 = .ok (.istore_n 2, 1) := by decide +kernel
theorem dX5_count_7 : decode cX5_count 7 = .ok (.iload_n 1, 1) := by decide +kernel
theorem dX5_count_8 : decode cX5_count 8 = .ok (.tableswitch 168 0 5 #[40, 45, 50, 55, 85, 116], 40) := by decide +kernel
theorem dX5_count_48 : decode cX5_count 48 = .ok (.aload_n 0, 1) := by decide +kernel
theorem dX5_count_49 : decode cX5_count 49 = .ok (.getfield 105, 3) := by decide +kernel
theorem dX5_count_52 : decode cX5_count 52 = .ok (.ireturn, 1) := by decide +kernel
theorem dX5_count_53 : decode cX5_count 53 = .ok (.aload_n 0, 1) := by decide +kernel
theorem dX5_count_54 : decode cX5_count 54 = .ok (.getfield 112, 3) := by decide +kernel
theorem dX5_count_57 : decode cX5_count 57 = .ok (.ireturn, 1) := by decide +kernel
theorem dX5_count_58 : decode cX5_count 58 = .ok (.aload_n 0, 1) := by decide +kernel
theorem dX5_count_59 : decode cX5_count 59 = .ok (.getfield 115, 3) := by decide +kernel
theorem dX5_count_62 : decode cX5_count 62 = .ok (.ireturn, 1) := by decide +kernel
theorem dX5_count_63 : decode cX5_count 63 = .ok (.iconst 0, 1) := by decide +kernel
theorem dX5_count_64 : decode cX5_count 64 = .ok (.istore_n 3, 1) := by decide +kernel
theorem dX5_count_65 : decode cX5_count 65 = .ok (.iload_n 3, 1) := by decide +kernel
theorem dX5_count_66 : decode cX5_count 66 = .ok (.aload_n 0, 1) := by decide +kernel
theorem dX5_count_67 : decode cX5_count 67 = .ok (.getfield 115, 3) := by decide +kernel
theorem dX5_count_70 : decode cX5_count 70 = .ok (.if_icmp .ge 21, 3) := by decide +kernel
theorem dX5_count_73 : decode cX5_count 73 = .ok (.aload_n 0, 1) := by decide +kernel
theorem dX5_count_74 : decode cX5_count 74 = .ok (.getfield 63, 3) := by decide +kernel
theorem dX5_count_77 : decode cX5_count 77 = .ok (.iload_n 3, 1) := by decide +kernel
theorem dX5_count_78 : decode cX5_count 78 = .ok (.iaload, 1) := by decide +kernel
theorem dX5_count_79 : decode cX5_count 79 = .ok (.ifCond .le 6, 3) := by decide +kernel
theorem dX5_count_82 : decode cX5_count 82 = .ok (.iinc 2 1, 3) := by decide +kernel
theorem dX5_count_85 : decode cX5_count 85 = .ok (.iinc 3 1, 3) := by decide +kernel
theorem dX5_count_88 : decode cX5_count 88 = .ok (.goto (-23), 3) := by decide +kernel
theorem dX5_count_91 : decode cX5_count 91 = .ok (.iload_n 2, 1) := by decide +kernel
theorem dX5_count_92 : decode cX5_count 92 = .ok (.ireturn, 1) := by decide +kernel
theorem dX5_count_93 : decode cX5_count 93 = .ok (.iconst 0, 1) := by decide +kernel
theorem dX5_count_94 : decode cX5_count 94 = .ok (.istore_n 3, 1) := by decide +kernel
theorem dX5_count_95 : decode cX5_count 95 = .ok (.iload_n 3, 1) := by decide +kernel
theorem dX5_count_96 : decode cX5_count 96 = .ok (.aload_n 0, 1) := by decide +kernel
theorem dX5_count_97 : decode cX5_count 97 = .ok (.getfield 115, 3) := by decide +kernel
theorem dX5_count_100 : decode cX5_count 100 = .ok (.if_icmp .ge 22, 3) := by decide +kernel
theorem dX5_count_103 : decode cX5_count 103 = .ok (.aload_n 0, 1) := by decide +kernel
theorem dX5_count_104 : decode cX5_count 104 = .ok (.getfield 63, 3) := by decide +kernel
theorem dX5_count_107 : decode cX5_count 107 = .ok (.iload_n 3, 1) := by decide +kernel
theorem dX5_count_108 : decode cX5_count 108 = .ok (.iaload, 1) := by decide +kernel
theorem dX5_count_109 : decode cX5_count 109 = .ok (.iconst 2, 1) := by decide +kernel
theorem dX5_count_110 : decode cX5_count 110 = .ok (.if_icmp .ne 6, 3) := by decide +kernel
theorem dX5_count_113 : decode cX5_count 113 = .ok (.iinc 2 1, 3) := by decide +kernel
theorem dX5_count_116 : decode cX5_count 116 = .ok (.iinc 3 1, 3) := by decide +kernel
theorem dX5_count_119 : decode cX5_count 119 = .ok (.goto (-24), 3) := by decide +kernel
theorem dX5_count_122 : decode cX5_count 122 = .ok (.iload_n 2, 1) := by decide +kernel
theorem dX5_count_123 : decode cX5_count 123 = .ok (.ireturn, 1) := by decide +kernel
theorem dX5_count_124 : decode cX5_count 124 = .ok (.iconst 0, 1) := by decide +kernel
theorem dX5_count_125 : decode cX5_count 125 = .ok (.istore_n 3, 1) := by decide +kernel
theorem dX5_count_126 : decode cX5_count 126 = .ok (.iload_n 3, 1) := by decide +kernel
theorem dX5_count_127 : decode cX5_count 127 = .ok (.aload_n 0, 1) := by decide +kernel
theorem dX5_count_128 : decode cX5_count 128 = .ok (.getfield 115, 3) := by decide +kernel
theorem dX5_count_131 : decode cX5_count 131 = .ok (.if_icmp .ge 43, 3) := by decide +kernel
theorem dX5_count_134 : decode cX5_count 134 = .ok (.aload_n 0, 1) := by decide +kernel
theorem dX5_count_135 : decode cX5_count 135 = .ok (.getfield 63, 3) := by decide +kernel
theorem dX5_count_138 : decode cX5_count 138 = .ok (.iload_n 3, 1) := by decide +kernel
theorem dX5_count_139 : decode cX5_count 139 = .ok (.iaload, 1) := by decide +kernel
theorem dX5_count_140 : decode cX5_count 140 = .ok (.iconst 1, 1) := by decide +kernel
theorem dX5_count_141 : decode cX5_count 141 = .ok (.if_icmp .ne 27, 3) := by decide +kernel
theorem dX5_count_144 : decode cX5_count 144 = .ok (.aload_n 0, 1) := by decide +kernel
theorem dX5_count_145 : decode cX5_count 145 = .ok (.iload_n 3, 1) := by decide +kernel
theorem dX5_count_146 : decode cX5_count 146 = .ok (.invokevirtual 130, 3) := by decide +kernel
theorem dX5_count_149 : decode cX5_count 149 = .ok (.aload_n 0, 1) := by decide +kernel
theorem dX5_count_150 : decode cX5_count 150 = .ok (.getfield 57, 3) := by decide +kernel
theorem dX5_count_153 : decode cX5_count 153 = .ok (.iload_n 3, 1) := by decide +kernel
theorem dX5_count_154 : decode cX5_count 154 = .ok (.iaload, 1) := by decide +kernel
theorem dX5_count_155 : decode cX5_count 155 = .ok (.isub, 1) := by decide +kernel
theorem dX5_count_156 : decode cX5_count 156 = .ok (.aload_n 0, 1) := by decide +kernel
theorem dX5_count_157 : decode cX5_count 157 = .ok (.getfield 60, 3) := by decide +kernel
theorem dX5_count_160 : decode cX5_count 160 = .ok (.iload_n 3, 1) := by decide +kernel
theorem dX5_count_161 : decode cX5_count 161 = .ok (.iaload, 1) := by decide +kernel
theorem dX5_count_162 : decode cX5_count 162 = .ok (.if_icmp .le 6, 3) := by decide +kernel
theorem dX5_count_165 : decode cX5_count 165 = .ok (.iinc 2 1, 3) := by decide +kernel
theorem dX5_count_168 : decode cX5_count 168 = .ok (.iinc 3 1, 3) := by decide +kernel
theorem dX5_count_171 : decode cX5_count 171 = .ok (.goto (-45), 3) := by decide +kernel
theorem dX5_count_174 : decode cX5_count 174 = .ok (.iload_n 2, 1) := by decide +kernel
theorem dX5_count_175 : decode cX5_count 175 = .ok (.ireturn, 1) := by decide +kernel
theorem dX5_count_176 : decode cX5_count 176 = .ok (.iconst (-1), 1) := by decide +kernel
theorem dX5_count_177 : decode cX5_count 177 = .ok (.ireturn, 1) := by decide +kernel
theorem dX5_of_0 : decode cX5_of 0 = .ok (.aload_n 0, 1) := by decide +kernel
theorem dX5_of_1 : decode cX5_of 1 = .ok (.iconst 0, 1) := by decide +kernel
theorem dX5_of_2 : decode cX5_of 2 = .ok (.putfield 102, 3) := by decide +kernel
theorem dX5_of_5 : decode cX5_of 5 = .ok (.aload_n 0, 1) := by decide +kernel
theorem dX5_of_6 : decode cX5_of 6 = .ok (.iload_n 1, 1) := by decide +kernel
theorem dX5_of_7 : decode cX5_of 7 = .ok (.invokevirtual 123, 3) := by decide +kernel
theorem dX5_of_10 : decode cX5_of 10 = .ok (.ifCond .eq 13, 3) := by decide +kernel
theorem dX5_of_13 : decode cX5_of 13 = .ok (.iload_n 2, 1) := by decide +kernel
theorem dX5_of_14 : decode cX5_of 14 = .ok (.iconst 0, 1) := by decide +kernel
theorem dX5_of_15 : decode cX5_of 15 = .ok (.bipush 6, 2) := by decide +kernel
theorem dX5_of_17 : decode cX5_of 17 = .ok (.invokestatic 108, 3) := by decide +kernel
theorem dX5_of_20 : decode cX5_of 20 = .ok (.ifCond .ne 10, 3) := by decide +kernel
theorem dX5_of_23 : decode cX5_of 23 = .ok (.aload_n 0, 1) := by decide +kernel
theorem dX5_of_24 : decode cX5_of 24 = .ok (.iconst 1, 1) := by decide +kernel
theorem dX5_of_25 : decode cX5_of 25 = .ok (.putfield 102, 3) := by decide +kernel
theorem dX5_of_28 : decode cX5_of 28 = .ok (.iconst 0, 1) := by decide +kernel
theorem dX5_of_29 : decode cX5_of 29 = .ok (.ireturn, 1) := by decide +kernel
theorem dX5_of_30 : decode cX5_of 30 = .ok (.iload_n 2, 1) := by decide +kernel
theorem dX5_of_31 : decode cX5_of 31 = .ok (.tableswitch 92 0 5 #[37, 44, 51, 71, 78, 85], 37) := by decide +kernel
theorem dX5_of_68 : decode cX5_of 68 = .ok (.aload_n 0, 1) := by decide +kernel
theorem dX5_of_69 : decode cX5_of 69 = .ok (.getfield 13, 3) := by decide +kernel
theorem dX5_of_72 : decode cX5_of 72 = .ok (.iload_n 1, 1) := by decide +kernel
theorem dX5_of_73 : decode cX5_of 73 = .ok (.iaload, 1) := by decide +kernel
theorem dX5_of_74 : decode cX5_of 74 = .ok (.ireturn, 1) := by decide +kernel
theorem dX5_of_75 : decode cX5_of 75 = .ok (.aload_n 0, 1) := by decide +kernel
theorem dX5_of_76 : decode cX5_of 76 = .ok (.getfield 28, 3) := by decide +kernel
theorem dX5_of_79 : decode cX5_of 79 = .ok (.iload_n 1, 1) := by decide +kernel
theorem dX5_of_80 : decode cX5_of 80 = .ok (.iaload, 1) := by decide +kernel
theorem dX5_of_81 : decode cX5_of 81 = .ok (.ireturn, 1) := by decide +kernel
theorem dX5_of_82 : decode cX5_of 82 = .ok (.aload_n 0, 1) := by decide +kernel
theorem dX5_of_83 : decode cX5_of 83 = .ok (.getfield 34, 3) := by decide +kernel
theorem dX5_of_86 : decode cX5_of 86 = .ok (.iload_n 1, 1) := by decide +kernel
theorem dX5_of_87 : decode cX5_of 87 = .ok (.baload, 1) := by decide +kernel
theorem dX5_of_88 : decode cX5_of 88 = .ok (.ifCond .eq 7, 3) := by decide +kernel
theorem dX5_of_91 : decode cX5_of 91 = .ok (.iconst (-1), 1) := by decide +kernel
theorem dX5_of_92 : decode cX5_of 92 = .ok (.goto 9, 3) := by decide +kernel
theorem dX5_of_95 : decode cX5_of 95 = .ok (.aload_n 0, 1) := by decide +kernel
theorem dX5_of_96 : decode cX5_of 96 = .ok (.getfield 31, 3) := by decide +kernel
theorem dX5_of_99 : decode cX5_of 99 = .ok (.iload_n 1, 1) := by decide +kernel
theorem dX5_of_100 : decode cX5_of 100 = .ok (.iaload, 1) := by decide +kernel
theorem dX5_of_101 : decode cX5_of 101 = .ok (.ireturn, 1) := by decide +kernel
theorem dX5_of_102 : decode cX5_of 102 = .ok (.aload_n 0, 1) := by decide +kernel
theorem dX5_of_103 : decode cX5_of 103 = .ok (.getfield 38, 3) := by decide +kernel
theorem dX5_of_106 : decode cX5_of 106 = .ok (.iload_n 1, 1) := by decide +kernel
theorem dX5_of_107 : decode cX5_of 107 = .ok (.iaload, 1) := by decide +kernel
theorem dX5_of_108 : decode cX5_of 108 = .ok (.ireturn, 1) := by decide +kernel
theorem dX5_of_109 : decode cX5_of 109 = .ok (.aload_n 0, 1) := by decide +kernel
theorem dX5_of_110 : decode cX5_of 110 = .ok (.getfield 41, 3) := by decide +kernel
theorem dX5_of_113 : decode cX5_of 113 = .ok (.iload_n 1, 1) := by decide +kernel
theorem dX5_of_114 : decode cX5_of 114 = .ok (.iaload, 1) := by decide +kernel
theorem dX5_of_115 : decode cX5_of 115 = .ok (.ireturn, 1) := by decide +kernel
theorem dX5_of_116 : decode cX5_of 116 = .ok (.aload_n 0, 1) := by decide +kernel
theorem dX5_of_117 : decode cX5_of 117 = .ok (.getfield 16, 3) := by decide +kernel
theorem dX5_of_120 : decode cX5_of 120 = .ok (.iload_n 1, 1) := by decide +kernel
theorem dX5_of_121 : decode cX5_of 121 = .ok (.iaload, 1) := by decide +kernel
theorem dX5_of_122 : decode cX5_of 122 = .ok (.ireturn, 1) := by decide +kernel
theorem dX5_of_123 : decode cX5_of 123 = .ok (.aload_n 0, 1) := by decide +kernel
theorem dX5_of_124 : decode cX5_of 124 = .ok (.getfield 25, 3) := by decide +kernel
theorem dX5_of_127 : decode cX5_of 127 = .ok (.iload_n 1, 1) := by decide +kernel
theorem dX5_of_128 : decode cX5_of 128 = .ok (.iaload, 1) := by decide +kernel
theorem dX5_of_129 : decode cX5_of 129 = .ok (.ireturn, 1) := by decide +kernel
theorem dX5_mayCarry_0 : decode cX5_mayCarry 0 = .ok (.aload_n 0, 1) := by decide +kernel
theorem dX5_mayCarry_1 : decode cX5_mayCarry 1 = .ok (.getfield 34, 3) := by decide +kernel
theorem dX5_mayCarry_4 : decode cX5_mayCarry 4 = .ok (.iload_n 1, 1) := by decide +kernel
theorem dX5_mayCarry_5 : decode cX5_mayCarry 5 = .ok (.baload, 1) := by decide +kernel
theorem dX5_mayCarry_6 : decode cX5_mayCarry 6 = .ok (.ifCond .ne 21, 3) := by decide +kernel
theorem dX5_mayCarry_9 : decode cX5_mayCarry 9 = .ok (.aload_n 0, 1) := by decide +kernel
theorem dX5_mayCarry_10 : decode cX5_mayCarry 10 = .ok (.getfield 25, 3) := by decide +kernel
theorem dX5_mayCarry_13 : decode cX5_mayCarry 13 = .ok (.iload_n 1, 1) := by decide +kernel
theorem dX5_mayCarry_14 : decode cX5_mayCarry 14 = .ok (.iaload, 1) := by decide +kernel
theorem dX5_mayCarry_15 : decode cX5_mayCarry 15 = .ok (.iload_n 2, 1) := by decide +kernel
theorem dX5_mayCarry_16 : decode cX5_mayCarry 16 = .ok (.ishr, 1) := by decide +kernel
theorem dX5_mayCarry_17 : decode cX5_mayCarry 17 = .ok (.iconst 1, 1) := by decide +kernel
theorem dX5_mayCarry_18 : decode cX5_mayCarry 18 = .ok (.iand, 1) := by decide +kernel
theorem dX5_mayCarry_19 : decode cX5_mayCarry 19 = .ok (.iconst 1, 1) := by decide +kernel
theorem dX5_mayCarry_20 : decode cX5_mayCarry 20 = .ok (.if_icmp .ne 7, 3) := by decide +kernel
theorem dX5_mayCarry_23 : decode cX5_mayCarry 23 = .ok (.iconst 1, 1) := by decide +kernel
theorem dX5_mayCarry_24 : decode cX5_mayCarry 24 = .ok (.goto 4, 3) := by decide +kernel
theorem dX5_mayCarry_27 : decode cX5_mayCarry 27 = .ok (.iconst 0, 1) := by decide +kernel
theorem dX5_mayCarry_28 : decode cX5_mayCarry 28 = .ok (.ireturn, 1) := by decide +kernel
theorem dX5_onDuty_0 : decode cX5_onDuty 0 = .ok (.iconst 0, 1) := by decide +kernel
theorem dX5_onDuty_1 : decode cX5_onDuty 1 = .ok (.istore_n 3, 1) := by decide +kernel
theorem dX5_onDuty_2 : decode cX5_onDuty 2 = .ok (.iconst 0, 1) := by decide +kernel
theorem dX5_onDuty_3 : decode cX5_onDuty 3 = .ok (.istore 4, 2) := by decide +kernel
theorem dX5_onDuty_5 : decode cX5_onDuty 5 = .ok (.iload 4, 2) := by decide +kernel
theorem dX5_onDuty_7 : decode cX5_onDuty 7 = .ok (.aload_n 0, 1) := by decide +kernel
theorem dX5_onDuty_8 : decode cX5_onDuty 8 = .ok (.getfield 112, 3) := by decide +kernel
theorem dX5_onDuty_11 : decode cX5_onDuty 11 = .ok (.if_icmp .ge 43, 3) := by decide +kernel
theorem dX5_onDuty_14 : decode cX5_onDuty 14 = .ok (.aload_n 0, 1) := by decide +kernel
theorem dX5_onDuty_15 : decode cX5_onDuty 15 = .ok (.iload 4, 2) := by decide +kernel
theorem dX5_onDuty_17 : decode cX5_onDuty 17 = .ok (.iload_n 2, 1) := by decide +kernel
theorem dX5_onDuty_18 : decode cX5_onDuty 18 = .ok (.invokevirtual 134, 3) := by decide +kernel
theorem dX5_onDuty_21 : decode cX5_onDuty 21 = .ok (.ifCond .eq 27, 3) := by decide +kernel
theorem dX5_onDuty_24 : decode cX5_onDuty 24 = .ok (.iload_n 1, 1) := by decide +kernel
theorem dX5_onDuty_25 : decode cX5_onDuty 25 = .ok (.aload_n 0, 1) := by decide +kernel
theorem dX5_onDuty_26 : decode cX5_onDuty 26 = .ok (.getfield 19, 3) := by decide +kernel
theorem dX5_onDuty_29 : decode cX5_onDuty 29 = .ok (.iload 4, 2) := by decide +kernel
theorem dX5_onDuty_31 : decode cX5_onDuty 31 = .ok (.iaload, 1) := by decide +kernel
theorem dX5_onDuty_32 : decode cX5_onDuty 32 = .ok (.aload_n 0, 1) := by decide +kernel
theorem dX5_onDuty_33 : decode cX5_onDuty 33 = .ok (.getfield 22, 3) := by decide +kernel
theorem dX5_onDuty_36 : decode cX5_onDuty 36 = .ok (.iload 4, 2) := by decide +kernel
theorem dX5_onDuty_38 : decode cX5_onDuty 38 = .ok (.iaload, 1) := by decide +kernel
theorem dX5_onDuty_39 : decode cX5_onDuty 39 = .ok (.invokestatic 108, 3) := by decide +kernel
theorem dX5_onDuty_42 : decode cX5_onDuty 42 = .ok (.ifCond .eq 6, 3) := by decide +kernel
theorem dX5_onDuty_45 : decode cX5_onDuty 45 = .ok (.iinc 3 1, 3) := by decide +kernel
theorem dX5_onDuty_48 : decode cX5_onDuty 48 = .ok (.iinc 4 1, 3) := by decide +kernel
theorem dX5_onDuty_51 : decode cX5_onDuty 51 = .ok (.goto (-46), 3) := by decide +kernel
theorem dX5_onDuty_54 : decode cX5_onDuty 54 = .ok (.iload_n 3, 1) := by decide +kernel
theorem dX5_onDuty_55 : decode cX5_onDuty 55 = .ok (.ireturn, 1) := by decide +kernel
theorem dX5_duty_0 : decode cX5_duty 0 = .ok (.aload_n 0, 1) := by decide +kernel
theorem dX5_duty_1 : decode cX5_duty 1 = .ok (.iconst 0, 1) := by decide +kernel
theorem dX5_duty_2 : decode cX5_duty 2 = .ok (.putfield 102, 3) := by decide +kernel
theorem dX5_duty_5 : decode cX5_duty 5 = .ok (.iload_n 1, 1) := by decide +kernel
theorem dX5_duty_6 : decode cX5_duty 6 = .ok (.iconst 0, 1) := by decide +kernel
theorem dX5_duty_7 : decode cX5_duty 7 = .ok (.sipush 4319, 3) := by decide +kernel
theorem dX5_duty_10 : decode cX5_duty 10 = .ok (.invokestatic 108, 3) := by decide +kernel
theorem dX5_duty_13 : decode cX5_duty 13 = .ok (.ifCond .eq 21, 3) := by decide +kernel
theorem dX5_duty_16 : decode cX5_duty 16 = .ok (.iload_n 2, 1) := by decide +kernel
theorem dX5_duty_17 : decode cX5_duty 17 = .ok (.iconst 0, 1) := by decide +kernel
theorem dX5_duty_18 : decode cX5_duty 18 = .ok (.iconst 3, 1) := by decide +kernel
theorem dX5_duty_19 : decode cX5_duty 19 = .ok (.invokestatic 108, 3) := by decide +kernel
theorem dX5_duty_22 : decode cX5_duty 22 = .ok (.ifCond .eq 12, 3) := by decide +kernel
theorem dX5_duty_25 : decode cX5_duty 25 = .ok (.aload_n 0, 1) := by decide +kernel
theorem dX5_duty_26 : decode cX5_duty 26 = .ok (.iload_n 1, 1) := by decide +kernel
theorem dX5_duty_27 : decode cX5_duty 27 = .ok (.iload_n 2, 1) := by decide +kernel
theorem dX5_duty_28 : decode cX5_duty 28 = .ok (.invokevirtual 138, 3) := by decide +kernel
theorem dX5_duty_31 : decode cX5_duty 31 = .ok (.goto 4, 3) := by decide +kernel
theorem dX5_duty_34 : decode cX5_duty 34 = .ok (.iconst (-1), 1) := by decide +kernel
theorem dX5_duty_35 : decode cX5_duty 35 = .ok (.ireturn, 1) := by decide +kernel
theorem dX5_bare_0 : decode cX5_bare 0 = .ok (.aload_n 0, 1) := by decide +kernel
theorem dX5_bare_1 : decode cX5_bare 1 = .ok (.iconst 0, 1) := by decide +kernel
theorem dX5_bare_2 : decode cX5_bare 2 = .ok (.putfield 102, 3) := by decide +kernel
theorem dX5_bare_5 : decode cX5_bare 5 = .ok (.iload_n 1, 1) := by decide +kernel
theorem dX5_bare_6 : decode cX5_bare 6 = .ok (.iconst 0, 1) := by decide +kernel
theorem dX5_bare_7 : decode cX5_bare 7 = .ok (.sipush 4319, 3) := by decide +kernel
theorem dX5_bare_10 : decode cX5_bare 10 = .ok (.invokestatic 108, 3) := by decide +kernel
theorem dX5_bare_13 : decode cX5_bare 13 = .ok (.ifCond .eq 12, 3) := by decide +kernel
theorem dX5_bare_16 : decode cX5_bare 16 = .ok (.iload_n 2, 1) := by decide +kernel
theorem dX5_bare_17 : decode cX5_bare 17 = .ok (.iconst 0, 1) := by decide +kernel
theorem dX5_bare_18 : decode cX5_bare 18 = .ok (.iconst 3, 1) := by decide +kernel
theorem dX5_bare_19 : decode cX5_bare 19 = .ok (.invokestatic 108, 3) := by decide +kernel
theorem dX5_bare_22 : decode cX5_bare 22 = .ok (.ifCond .ne 5, 3) := by decide +kernel
theorem dX5_bare_25 : decode cX5_bare 25 = .ok (.iconst (-1), 1) := by decide +kernel
theorem dX5_bare_26 : decode cX5_bare 26 = .ok (.ireturn, 1) := by decide +kernel
theorem dX5_bare_27 : decode cX5_bare 27 = .ok (.iload_n 1, 1) := by decide +kernel
theorem dX5_bare_28 : decode cX5_bare 28 = .ok (.istore_n 3, 1) := by decide +kernel
theorem dX5_bare_29 : decode cX5_bare 29 = .ok (.iload_n 3, 1) := by decide +kernel
theorem dX5_bare_30 : decode cX5_bare 30 = .ok (.sipush 4319, 3) := by decide +kernel
theorem dX5_bare_33 : decode cX5_bare 33 = .ok (.if_icmp .gt 20, 3) := by decide +kernel
theorem dX5_bare_36 : decode cX5_bare 36 = .ok (.aload_n 0, 1) := by decide +kernel
theorem dX5_bare_37 : decode cX5_bare 37 = .ok (.iload_n 3, 1) := by decide +kernel
theorem dX5_bare_38 : decode cX5_bare 38 = .ok (.iload_n 2, 1) := by decide +kernel
theorem dX5_bare_39 : decode cX5_bare 39 = .ok (.invokevirtual 138, 3) := by decide +kernel
theorem dX5_bare_42 : decode cX5_bare 42 = .ok (.ifCond .ne 5, 3) := by decide +kernel
theorem dX5_bare_45 : decode cX5_bare 45 = .ok (.iload_n 3, 1) := by decide +kernel
theorem dX5_bare_46 : decode cX5_bare 46 = .ok (.ireturn, 1) := by decide +kernel
theorem dX5_bare_47 : decode cX5_bare 47 = .ok (.iinc 3 1, 3) := by decide +kernel
theorem dX5_bare_50 : decode cX5_bare 50 = .ok (.goto (-21), 3) := by decide +kernel
theorem dX5_bare_53 : decode cX5_bare 53 = .ok (.iconst (-1), 1) := by decide +kernel
theorem dX5_bare_54 : decode cX5_bare 54 = .ok (.ireturn, 1) := by decide +kernel
theorem dX5_isBetter_0 : decode cX5_isBetter 0 = .ok (.aload_n 0, 1) := by decide +kernel
theorem dX5_isBetter_1 : decode cX5_isBetter 1 = .ok (.getfield 142, 3) := by decide +kernel
theorem dX5_isBetter_4 : decode cX5_isBetter 4 = .ok (.ifCond .ne 5, 3) := by decide +kernel
theorem dX5_isBetter_7 : decode cX5_isBetter 7 = .ok (.iconst 1, 1) := by decide +kernel
theorem dX5_isBetter_8 : decode cX5_isBetter 8 = .ok (.ireturn, 1) := by decide +kernel
theorem dX5_isBetter_9 : decode cX5_isBetter 9 = .ok (.aload_n 0, 1) := by decide +kernel
theorem dX5_isBetter_10 : decode cX5_isBetter 10 = .ok (.getfield 87, 3) := by decide +kernel
theorem dX5_isBetter_13 : decode cX5_isBetter 13 = .ok (.iload_n 1, 1) := by decide +kernel
theorem dX5_isBetter_14 : decode cX5_isBetter 14 = .ok (.iconst 1, 1) := by decide +kernel
theorem dX5_isBetter_15 : decode cX5_isBetter 15 = .ok (.isub, 1) := by decide +kernel
theorem dX5_isBetter_16 : decode cX5_isBetter 16 = .ok (.iaload, 1) := by decide +kernel
theorem dX5_isBetter_17 : decode cX5_isBetter 17 = .ok (.istore_n 2, 1) := by decide +kernel
theorem dX5_isBetter_18 : decode cX5_isBetter 18 = .ok (.aload_n 0, 1) := by decide +kernel
theorem dX5_isBetter_19 : decode cX5_isBetter 19 = .ok (.getfield 99, 3) := by decide +kernel
theorem dX5_isBetter_22 : decode cX5_isBetter 22 = .ok (.aload_n 0, 1) := by decide +kernel
theorem dX5_isBetter_23 : decode cX5_isBetter 23 = .ok (.getfield 142, 3) := by decide +kernel
theorem dX5_isBetter_26 : decode cX5_isBetter 26 = .ok (.iconst 1, 1) := by decide +kernel
theorem dX5_isBetter_27 : decode cX5_isBetter 27 = .ok (.isub, 1) := by decide +kernel
theorem dX5_isBetter_28 : decode cX5_isBetter 28 = .ok (.iaload, 1) := by decide +kernel
theorem dX5_isBetter_29 : decode cX5_isBetter 29 = .ok (.istore_n 3, 1) := by decide +kernel
theorem dX5_isBetter_30 : decode cX5_isBetter 30 = .ok (.iload_n 2, 1) := by decide +kernel
theorem dX5_isBetter_31 : decode cX5_isBetter 31 = .ok (.iload_n 3, 1) := by decide +kernel
theorem dX5_isBetter_32 : decode cX5_isBetter 32 = .ok (.if_icmp .eq 14, 3) := by decide +kernel
theorem dX5_isBetter_35 : decode cX5_isBetter 35 = .ok (.iload_n 2, 1) := by decide +kernel
theorem dX5_isBetter_36 : decode cX5_isBetter 36 = .ok (.iload_n 3, 1) := by decide +kernel
theorem dX5_isBetter_37 : decode cX5_isBetter 37 = .ok (.if_icmp .ge 7, 3) := by decide +kernel
theorem dX5_isBetter_40 : decode cX5_isBetter 40 = .ok (.iconst 1, 1) := by decide +kernel
theorem dX5_isBetter_41 : decode cX5_isBetter 41 = .ok (.goto 4, 3) := by decide +kernel
theorem dX5_isBetter_44 : decode cX5_isBetter 44 = .ok (.iconst 0, 1) := by decide +kernel
theorem dX5_isBetter_45 : decode cX5_isBetter 45 = .ok (.ireturn, 1) := by decide +kernel
theorem dX5_isBetter_46 : decode cX5_isBetter 46 = .ok (.iload_n 1, 1) := by decide +kernel
theorem dX5_isBetter_47 : decode cX5_isBetter 47 = .ok (.aload_n 0, 1) := by decide +kernel
theorem dX5_isBetter_48 : decode cX5_isBetter 48 = .ok (.getfield 142, 3) := by decide +kernel
theorem dX5_isBetter_51 : decode cX5_isBetter 51 = .ok (.if_icmp .eq 17, 3) := by decide +kernel
theorem dX5_isBetter_54 : decode cX5_isBetter 54 = .ok (.iload_n 1, 1) := by decide +kernel
theorem dX5_isBetter_55 : decode cX5_isBetter 55 = .ok (.aload_n 0, 1) := by decide +kernel
theorem dX5_isBetter_56 : decode cX5_isBetter 56 = .ok (.getfield 142, 3) := by decide +kernel
theorem dX5_isBetter_59 : decode cX5_isBetter 59 = .ok (.if_icmp .ge 7, 3) := by decide +kernel
theorem dX5_isBetter_62 : decode cX5_isBetter 62 = .ok (.iconst 1, 1) := by decide +kernel
theorem dX5_isBetter_63 : decode cX5_isBetter 63 = .ok (.goto 4, 3) := by decide +kernel
theorem dX5_isBetter_66 : decode cX5_isBetter 66 = .ok (.iconst 0, 1) := by decide +kernel
theorem dX5_isBetter_67 : decode cX5_isBetter 67 = .ok (.ireturn, 1) := by decide +kernel
theorem dX5_isBetter_68 : decode cX5_isBetter 68 = .ok (.iconst 0, 1) := by decide +kernel
theorem dX5_isBetter_69 : decode cX5_isBetter 69 = .ok (.istore 4, 2) := by decide +kernel
theorem dX5_isBetter_71 : decode cX5_isBetter 71 = .ok (.iload 4, 2) := by decide +kernel
theorem dX5_isBetter_73 : decode cX5_isBetter 73 = .ok (.iload_n 1, 1) := by decide +kernel
theorem dX5_isBetter_74 : decode cX5_isBetter 74 = .ok (.if_icmp .ge 89, 3) := by decide +kernel
theorem dX5_isBetter_77 : decode cX5_isBetter 77 = .ok (.aload_n 0, 1) := by decide +kernel
theorem dX5_isBetter_78 : decode cX5_isBetter 78 = .ok (.getfield 78, 3) := by decide +kernel
theorem dX5_isBetter_81 : decode cX5_isBetter 81 = .ok (.iload 4, 2) := by decide +kernel
theorem dX5_isBetter_83 : decode cX5_isBetter 83 = .ok (.iaload, 1) := by decide +kernel
theorem dX5_isBetter_84 : decode cX5_isBetter 84 = .ok (.aload_n 0, 1) := by decide +kernel
theorem dX5_isBetter_85 : decode cX5_isBetter 85 = .ok (.getfield 90, 3) := by decide +kernel
theorem dX5_isBetter_88 : decode cX5_isBetter 88 = .ok (.iload 4, 2) := by decide +kernel
theorem dX5_isBetter_90 : decode cX5_isBetter 90 = .ok (.iaload, 1) := by decide +kernel
theorem dX5_isBetter_91 : decode cX5_isBetter 91 = .ok (.if_icmp .eq 26, 3) := by decide +kernel
theorem dX5_isBetter_94 : decode cX5_isBetter 94 = .ok (.aload_n 0, 1) := by decide +kernel
theorem dX5_isBetter_95 : decode cX5_isBetter 95 = .ok (.getfield 78, 3) := by decide +kernel
theorem dX5_isBetter_98 : decode cX5_isBetter 98 = .ok (.iload 4, 2) := by decide +kernel
theorem dX5_isBetter_100 : decode cX5_isBetter 100 = .ok (.iaload, 1) := by decide +kernel
theorem dX5_isBetter_101 : decode cX5_isBetter 101 = .ok (.aload_n 0, 1) := by decide +kernel
theorem dX5_isBetter_102 : decode cX5_isBetter 102 = .ok (.getfield 90, 3) := by decide +kernel
theorem dX5_isBetter_105 : decode cX5_isBetter 105 = .ok (.iload 4, 2) := by decide +kernel
theorem dX5_isBetter_107 : decode cX5_isBetter 107 = .ok (.iaload, 1) := by decide +kernel
theorem dX5_isBetter_108 : decode cX5_isBetter 108 = .ok (.if_icmp .ge 7, 3) := by decide +kernel
theorem dX5_isBetter_111 : decode cX5_isBetter 111 = .ok (.iconst 1, 1) := by decide +kernel
theorem dX5_isBetter_112 : decode cX5_isBetter 112 = .ok (.goto 4, 3) := by decide +kernel
theorem dX5_isBetter_115 : decode cX5_isBetter 115 = .ok (.iconst 0, 1) := by decide +kernel
theorem dX5_isBetter_116 : decode cX5_isBetter 116 = .ok (.ireturn, 1) := by decide +kernel
theorem dX5_isBetter_117 : decode cX5_isBetter 117 = .ok (.aload_n 0, 1) := by decide +kernel
theorem dX5_isBetter_118 : decode cX5_isBetter 118 = .ok (.getfield 81, 3) := by decide +kernel
theorem dX5_isBetter_121 : decode cX5_isBetter 121 = .ok (.iload 4, 2) := by decide +kernel
theorem dX5_isBetter_123 : decode cX5_isBetter 123 = .ok (.iaload, 1) := by decide +kernel
theorem dX5_isBetter_124 : decode cX5_isBetter 124 = .ok (.aload_n 0, 1) := by decide +kernel
theorem dX5_isBetter_125 : decode cX5_isBetter 125 = .ok (.getfield 93, 3) := by decide +kernel
theorem dX5_isBetter_128 : decode cX5_isBetter 128 = .ok (.iload 4, 2) := by decide +kernel
theorem dX5_isBetter_130 : decode cX5_isBetter 130 = .ok (.iaload, 1) := by decide +kernel
theorem dX5_isBetter_131 : decode cX5_isBetter 131 = .ok (.if_icmp .eq 26, 3) := by decide +kernel
theorem dX5_isBetter_134 : decode cX5_isBetter 134 = .ok (.aload_n 0, 1) := by decide +kernel
theorem dX5_isBetter_135 : decode cX5_isBetter 135 = .ok (.getfield 81, 3) := by decide +kernel
theorem dX5_isBetter_138 : decode cX5_isBetter 138 = .ok (.iload 4, 2) := by decide +kernel
theorem dX5_isBetter_140 : decode cX5_isBetter 140 = .ok (.iaload, 1) := by decide +kernel
theorem dX5_isBetter_141 : decode cX5_isBetter 141 = .ok (.aload_n 0, 1) := by decide +kernel
theorem dX5_isBetter_142 : decode cX5_isBetter 142 = .ok (.getfield 93, 3) := by decide +kernel
theorem dX5_isBetter_145 : decode cX5_isBetter 145 = .ok (.iload 4, 2) := by decide +kernel
theorem dX5_isBetter_147 : decode cX5_isBetter 147 = .ok (.iaload, 1) := by decide +kernel
theorem dX5_isBetter_148 : decode cX5_isBetter 148 = .ok (.if_icmp .ge 7, 3) := by decide +kernel
theorem dX5_isBetter_151 : decode cX5_isBetter 151 = .ok (.iconst 1, 1) := by decide +kernel
theorem dX5_isBetter_152 : decode cX5_isBetter 152 = .ok (.goto 4, 3) := by decide +kernel
theorem dX5_isBetter_155 : decode cX5_isBetter 155 = .ok (.iconst 0, 1) := by decide +kernel
theorem dX5_isBetter_156 : decode cX5_isBetter 156 = .ok (.ireturn, 1) := by decide +kernel
theorem dX5_isBetter_157 : decode cX5_isBetter 157 = .ok (.iinc 4 1, 3) := by decide +kernel
theorem dX5_isBetter_160 : decode cX5_isBetter 160 = .ok (.goto (-89), 3) := by decide +kernel
theorem dX5_isBetter_163 : decode cX5_isBetter 163 = .ok (.iconst 0, 1) := by decide +kernel
theorem dX5_isBetter_164 : decode cX5_isBetter 164 = .ok (.ireturn, 1) := by decide +kernel
theorem dX5_tryLeg_0 : decode cX5_tryLeg 0 = .ok (.iconst 0, 1) := by decide +kernel
theorem dX5_tryLeg_1 : decode cX5_tryLeg 1 = .ok (.istore 7, 2) := by decide +kernel
theorem dX5_tryLeg_3 : decode cX5_tryLeg 3 = .ok (.iload 7, 2) := by decide +kernel
theorem dX5_tryLeg_5 : decode cX5_tryLeg 5 = .ok (.aload_n 0, 1) := by decide +kernel
theorem dX5_tryLeg_6 : decode cX5_tryLeg 6 = .ok (.getfield 112, 3) := by decide +kernel
theorem dX5_tryLeg_9 : decode cX5_tryLeg 9 = .ok (.if_icmp .ge 387, 3) := by decide +kernel
theorem dX5_tryLeg_12 : decode cX5_tryLeg 12 = .ok (.iconst 1, 1) := by decide +kernel
theorem dX5_tryLeg_13 : decode cX5_tryLeg 13 = .ok (.istore 8, 2) := by decide +kernel
theorem dX5_tryLeg_15 : decode cX5_tryLeg 15 = .ok (.iconst 0, 1) := by decide +kernel
theorem dX5_tryLeg_16 : decode cX5_tryLeg 16 = .ok (.istore 9, 2) := by decide +kernel
theorem dX5_tryLeg_18 : decode cX5_tryLeg 18 = .ok (.iload 9, 2) := by decide +kernel
theorem dX5_tryLeg_20 : decode cX5_tryLeg 20 = .ok (.iload_n 1, 1) := by decide +kernel
theorem dX5_tryLeg_21 : decode cX5_tryLeg 21 = .ok (.if_icmp .ge 33, 3) := by decide +kernel
theorem dX5_tryLeg_24 : decode cX5_tryLeg 24 = .ok (.iload 8, 2) := by decide +kernel
theorem dX5_tryLeg_26 : decode cX5_tryLeg 26 = .ok (.ifCond .eq 19, 3) := by decide +kernel
theorem dX5_tryLeg_29 : decode cX5_tryLeg 29 = .ok (.aload_n 0, 1) := by decide +kernel
theorem dX5_tryLeg_30 : decode cX5_tryLeg 30 = .ok (.getfield 78, 3) := by decide +kernel
theorem dX5_tryLeg_33 : decode cX5_tryLeg 33 = .ok (.iload 9, 2) := by decide +kernel
theorem dX5_tryLeg_35 : decode cX5_tryLeg 35 = .ok (.iaload, 1) := by decide +kernel
theorem dX5_tryLeg_36 : decode cX5_tryLeg 36 = .ok (.iload 7, 2) := by decide +kernel
theorem dX5_tryLeg_38 : decode cX5_tryLeg 38 = .ok (.if_icmp .eq 7, 3) := by decide +kernel
theorem dX5_tryLeg_41 : decode cX5_tryLeg 41 = .ok (.iconst 1, 1) := by decide +kernel
theorem dX5_tryLeg_42 : decode cX5_tryLeg 42 = .ok (.goto 4, 3) := by decide +kernel
theorem dX5_tryLeg_45 : decode cX5_tryLeg 45 = .ok (.iconst 0, 1) := by decide +kernel
theorem dX5_tryLeg_46 : decode cX5_tryLeg 46 = .ok (.istore 8, 2) := by decide +kernel
theorem dX5_tryLeg_48 : decode cX5_tryLeg 48 = .ok (.iinc 9 1, 3) := by decide +kernel
theorem dX5_tryLeg_51 : decode cX5_tryLeg 51 = .ok (.goto (-33), 3) := by decide +kernel
theorem dX5_tryLeg_54 : decode cX5_tryLeg 54 = .ok (.iload 8, 2) := by decide +kernel
theorem dX5_tryLeg_56 : decode cX5_tryLeg 56 = .ok (.ifCond .eq 334, 3) := by decide +kernel
theorem dX5_tryLeg_59 : decode cX5_tryLeg 59 = .ok (.aload_n 0, 1) := by decide +kernel
theorem dX5_tryLeg_60 : decode cX5_tryLeg 60 = .ok (.iload 7, 2) := by decide +kernel
theorem dX5_tryLeg_62 : decode cX5_tryLeg 62 = .ok (.iload_n 2, 1) := by decide +kernel
theorem dX5_tryLeg_63 : decode cX5_tryLeg 63 = .ok (.invokevirtual 134, 3) := by decide +kernel
theorem dX5_tryLeg_66 : decode cX5_tryLeg 66 = .ok (.ifCond .ne 6, 3) := by decide +kernel
theorem dX5_tryLeg_69 : decode cX5_tryLeg 69 = .ok (.goto 321, 3) := by decide +kernel
theorem dX5_tryLeg_72 : decode cX5_tryLeg 72 = .ok (.aload_n 0, 1) := by decide +kernel
theorem dX5_tryLeg_73 : decode cX5_tryLeg 73 = .ok (.iload 7, 2) := by decide +kernel
theorem dX5_tryLeg_75 : decode cX5_tryLeg 75 = .ok (.aload_n 0, 1) := by decide +kernel
theorem dX5_tryLeg_76 : decode cX5_tryLeg 76 = .ok (.getfield 28, 3) := by decide +kernel
theorem dX5_tryLeg_79 : decode cX5_tryLeg 79 = .ok (.iload 7, 2) := by decide +kernel
theorem dX5_tryLeg_81 : decode cX5_tryLeg 81 = .ok (.iaload, 1) := by decide +kernel
theorem dX5_tryLeg_82 : decode cX5_tryLeg 82 = .ok (.iload_n 3, 1) := by decide +kernel
theorem dX5_tryLeg_83 : decode cX5_tryLeg 83 = .ok (.invokevirtual 126, 3) := by decide +kernel
theorem dX5_tryLeg_86 : decode cX5_tryLeg 86 = .ok (.istore 9, 2) := by decide +kernel
theorem dX5_tryLeg_88 : decode cX5_tryLeg 88 = .ok (.iload 9, 2) := by decide +kernel
theorem dX5_tryLeg_90 : decode cX5_tryLeg 90 = .ok (.ldc 122, 2) := by decide +kernel
theorem dX5_tryLeg_92 : decode cX5_tryLeg 92 = .ok (.if_icmp .ne 6, 3) := by decide +kernel
theorem dX5_tryLeg_95 : decode cX5_tryLeg 95 = .ok (.goto 295, 3) := by decide +kernel
theorem dX5_tryLeg_98 : decode cX5_tryLeg 98 = .ok (.iload 4, 2) := by decide +kernel
theorem dX5_tryLeg_100 : decode cX5_tryLeg 100 = .ok (.aload_n 0, 1) := by decide +kernel
theorem dX5_tryLeg_101 : decode cX5_tryLeg 101 = .ok (.getfield 31, 3) := by decide +kernel
theorem dX5_tryLeg_104 : decode cX5_tryLeg 104 = .ok (.iload 7, 2) := by decide +kernel
theorem dX5_tryLeg_106 : decode cX5_tryLeg 106 = .ok (.iaload, 1) := by decide +kernel
theorem dX5_tryLeg_107 : decode cX5_tryLeg 107 = .ok (.aload_n 0, 1) := by decide +kernel
theorem dX5_tryLeg_108 : decode cX5_tryLeg 108 = .ok (.getfield 19, 3) := by decide +kernel
theorem dX5_tryLeg_111 : decode cX5_tryLeg 111 = .ok (.iload 7, 2) := by decide +kernel
theorem dX5_tryLeg_113 : decode cX5_tryLeg 113 = .ok (.iaload, 1) := by decide +kernel
theorem dX5_tryLeg_114 : decode cX5_tryLeg 114 = .ok (.invokestatic 145, 3) := by decide +kernel
theorem dX5_tryLeg_117 : decode cX5_tryLeg 117 = .ok (.iload 9, 2) := by decide +kernel
theorem dX5_tryLeg_119 : decode cX5_tryLeg 119 = .ok (.iadd, 1) := by decide +kernel
theorem dX5_tryLeg_120 : decode cX5_tryLeg 120 = .ok (.invokestatic 145, 3) := by decide +kernel
theorem dX5_tryLeg_123 : decode cX5_tryLeg 123 = .ok (.istore 10, 2) := by decide +kernel
theorem dX5_tryLeg_125 : decode cX5_tryLeg 125 = .ok (.iload_n 1, 1) := by decide +kernel
theorem dX5_tryLeg_126 : decode cX5_tryLeg 126 = .ok (.ifCond .le 24, 3) := by decide +kernel
theorem dX5_tryLeg_129 : decode cX5_tryLeg 129 = .ok (.iload 10, 2) := by decide +kernel
theorem dX5_tryLeg_131 : decode cX5_tryLeg 131 = .ok (.aload_n 0, 1) := by decide +kernel
theorem dX5_tryLeg_132 : decode cX5_tryLeg 132 = .ok (.getfield 22, 3) := by decide +kernel
theorem dX5_tryLeg_135 : decode cX5_tryLeg 135 = .ok (.aload_n 0, 1) := by decide +kernel
theorem dX5_tryLeg_136 : decode cX5_tryLeg 136 = .ok (.getfield 78, 3) := by decide +kernel
theorem dX5_tryLeg_139 : decode cX5_tryLeg 139 = .ok (.iload_n 1, 1) := by decide +kernel
theorem dX5_tryLeg_140 : decode cX5_tryLeg 140 = .ok (.iconst 1, 1) := by decide +kernel
theorem dX5_tryLeg_141 : decode cX5_tryLeg 141 = .ok (.isub, 1) := by decide +kernel
theorem dX5_tryLeg_142 : decode cX5_tryLeg 142 = .ok (.iaload, 1) := by decide +kernel
theorem dX5_tryLeg_143 : decode cX5_tryLeg 143 = .ok (.iaload, 1) := by decide +kernel
theorem dX5_tryLeg_144 : decode cX5_tryLeg 144 = .ok (.if_icmp .le 6, 3) := by decide +kernel
theorem dX5_tryLeg_147 : decode cX5_tryLeg 147 = .ok (.goto 243, 3) := by decide +kernel
theorem dX5_tryLeg_150 : decode cX5_tryLeg 150 = .ok (.iconst 0, 1) := by decide +kernel
theorem dX5_tryLeg_151 : decode cX5_tryLeg 151 = .ok (.istore 11, 2) := by decide +kernel
theorem dX5_tryLeg_153 : decode cX5_tryLeg 153 = .ok (.iload 11, 2) := by decide +kernel
theorem dX5_tryLeg_155 : decode cX5_tryLeg 155 = .ok (.aload_n 0, 1) := by decide +kernel
theorem dX5_tryLeg_156 : decode cX5_tryLeg 156 = .ok (.getfield 105, 3) := by decide +kernel
theorem dX5_tryLeg_159 : decode cX5_tryLeg 159 = .ok (.if_icmp .ge 231, 3) := by decide +kernel
theorem dX5_tryLeg_162 : decode cX5_tryLeg 162 = .ok (.iload 6, 2) := by decide +kernel
theorem dX5_tryLeg_164 : decode cX5_tryLeg 164 = .ok (.iload 11, 2) := by decide +kernel
theorem dX5_tryLeg_166 : decode cX5_tryLeg 166 = .ok (.ishr, 1) := by decide +kernel
theorem dX5_tryLeg_167 : decode cX5_tryLeg 167 = .ok (.iconst 1, 1) := by decide +kernel
theorem dX5_tryLeg_168 : decode cX5_tryLeg 168 = .ok (.iand, 1) := by decide +kernel
theorem dX5_tryLeg_169 : decode cX5_tryLeg 169 = .ok (.iconst 1, 1) := by decide +kernel
theorem dX5_tryLeg_170 : decode cX5_tryLeg 170 = .ok (.if_icmp .eq 214, 3) := by decide +kernel
theorem dX5_tryLeg_173 : decode cX5_tryLeg 173 = .ok (.iload 11, 2) := by decide +kernel
theorem dX5_tryLeg_175 : decode cX5_tryLeg 175 = .ok (.iload 5, 2) := by decide +kernel
theorem dX5_tryLeg_177 : decode cX5_tryLeg 177 = .ok (.if_icmp .eq 11, 3) := by decide +kernel
theorem dX5_tryLeg_180 : decode cX5_tryLeg 180 = .ok (.iload_n 1, 1) := by decide +kernel
theorem dX5_tryLeg_181 : decode cX5_tryLeg 181 = .ok (.iconst 2, 1) := by decide +kernel
theorem dX5_tryLeg_182 : decode cX5_tryLeg 182 = .ok (.if_icmp .ne 6, 3) := by decide +kernel
theorem dX5_tryLeg_185 : decode cX5_tryLeg 185 = .ok (.goto 199, 3) := by decide +kernel
theorem dX5_tryLeg_188 : decode cX5_tryLeg 188 = .ok (.aload_n 0, 1) := by decide +kernel
theorem dX5_tryLeg_189 : decode cX5_tryLeg 189 = .ok (.iload 7, 2) := by decide +kernel
theorem dX5_tryLeg_191 : decode cX5_tryLeg 191 = .ok (.iload_n 3, 1) := by decide +kernel
theorem dX5_tryLeg_192 : decode cX5_tryLeg 192 = .ok (.iload 11, 2) := by decide +kernel
theorem dX5_tryLeg_194 : decode cX5_tryLeg 194 = .ok (.invokevirtual 126, 3) := by decide +kernel
theorem dX5_tryLeg_197 : decode cX5_tryLeg 197 = .ok (.istore 12, 2) := by decide +kernel
theorem dX5_tryLeg_199 : decode cX5_tryLeg 199 = .ok (.iload 12, 2) := by decide +kernel
theorem dX5_tryLeg_201 : decode cX5_tryLeg 201 = .ok (.ldc 122, 2) := by decide +kernel
theorem dX5_tryLeg_203 : decode cX5_tryLeg 203 = .ok (.if_icmp .eq 181, 3) := by decide +kernel
theorem dX5_tryLeg_206 : decode cX5_tryLeg 206 = .ok (.iload 10, 2) := by decide +kernel
theorem dX5_tryLeg_208 : decode cX5_tryLeg 208 = .ok (.iload 12, 2) := by decide +kernel
theorem dX5_tryLeg_210 : decode cX5_tryLeg 210 = .ok (.iadd, 1) := by decide +kernel
theorem dX5_tryLeg_211 : decode cX5_tryLeg 211 = .ok (.aload_n 0, 1) := by decide +kernel
theorem dX5_tryLeg_212 : decode cX5_tryLeg 212 = .ok (.getfield 22, 3) := by decide +kernel
theorem dX5_tryLeg_215 : decode cX5_tryLeg 215 = .ok (.iload 7, 2) := by decide +kernel
theorem dX5_tryLeg_217 : decode cX5_tryLeg 217 = .ok (.iaload, 1) := by decide +kernel
theorem dX5_tryLeg_218 : decode cX5_tryLeg 218 = .ok (.if_icmp .le 6, 3) := by decide +kernel
theorem dX5_tryLeg_221 : decode cX5_tryLeg 221 = .ok (.goto 163, 3) := by decide +kernel
theorem dX5_tryLeg_224 : decode cX5_tryLeg 224 = .ok (.aload_n 0, 1) := by decide +kernel
theorem dX5_tryLeg_225 : decode cX5_tryLeg 225 = .ok (.getfield 78, 3) := by decide +kernel
theorem dX5_tryLeg_228 : decode cX5_tryLeg 228 = .ok (.iload_n 1, 1) := by decide +kernel
theorem dX5_tryLeg_229 : decode cX5_tryLeg 229 = .ok (.iload 7, 2) := by decide +kernel
theorem dX5_tryLeg_231 : decode cX5_tryLeg 231 = .ok (.iastore, 1) := by decide +kernel
