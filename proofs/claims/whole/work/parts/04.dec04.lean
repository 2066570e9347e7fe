theorem dX5_init_0 : decode cX5_init 0 = .ok (.aload_n 0, 1) := by decide +kernel
theorem dX5_init_1 : decode cX5_init 1 = .ok (.invokespecial 1, 3) := by decide +kernel
theorem dX5_init_4 : decode cX5_init 4 = .ok (.aload_n 0, 1) := by decide +kernel
theorem dX5_init_5 : decode cX5_init 5 = .ok (.bipush 64, 2) := by decide +kernel
theorem dX5_init_7 : decode cX5_init 7 = .ok (.newarray .int, 2) := by decide +kernel
theorem dX5_init_9 : decode cX5_init 9 = .ok (.putfield 9, 3) := by decide +kernel
theorem dX5_init_12 : decode cX5_init 12 = .ok (.aload_n 0, 1) := by decide +kernel
theorem dX5_init_13 : decode cX5_init 13 = .ok (.bipush 6, 2) := by decide +kernel
theorem dX5_init_15 : decode cX5_init 15 = .ok (.newarray .int, 2) := by decide +kernel
theorem dX5_init_17 : decode cX5_init 17 = .ok (.putfield 13, 3) := by decide +kernel
theorem dX5_init_20 : decode cX5_init 20 = .ok (.aload_n 0, 1) := by decide +kernel
theorem dX5_init_21 : decode cX5_init 21 = .ok (.bipush 6, 2) := by decide +kernel
theorem dX5_init_23 : decode cX5_init 23 = .ok (.newarray .int, 2) := by decide +kernel
theorem dX5_init_25 : decode cX5_init 25 = .ok (.putfield 16, 3) := by decide +kernel
theorem dX5_init_28 : decode cX5_init 28 = .ok (.aload_n 0, 1) := by decide +kernel
theorem dX5_init_29 : decode cX5_init 29 = .ok (.bipush 6, 2) := by decide +kernel
theorem dX5_init_31 : decode cX5_init 31 = .ok (.newarray .int, 2) := by decide +kernel
theorem dX5_init_33 : decode cX5_init 33 = .ok (.putfield 19, 3) := by decide +kernel
theorem dX5_init_36 : decode cX5_init 36 = .ok (.aload_n 0, 1) := by decide +kernel
theorem dX5_init_37 : decode cX5_init 37 = .ok (.bipush 6, 2) := by decide +kernel
theorem dX5_init_39 : decode cX5_init 39 = .ok (.newarray .int, 2) := by decide +kernel
theorem dX5_init_41 : decode cX5_init 41 = .ok (.putfield 22, 3) := by decide +kernel
theorem dX5_init_44 : decode cX5_init 44 = .ok (.aload_n 0, 1) := by decide +kernel
theorem dX5_init_45 : decode cX5_init 45 = .ok (.bipush 6, 2) := by decide +kernel
theorem dX5_init_47 : decode cX5_init 47 = .ok (.newarray .int, 2) := by decide +kernel
theorem dX5_init_49 : decode cX5_init 49 = .ok (.putfield 25, 3) := by decide +kernel
theorem dX5_init_52 : decode cX5_init 52 = .ok (.aload_n 0, 1) := by decide +kernel
theorem dX5_init_53 : decode cX5_init 53 = .ok (.bipush 6, 2) := by decide +kernel
theorem dX5_init_55 : decode cX5_init 55 = .ok (.newarray .int, 2) := by decide +kernel
theorem dX5_init_57 : decode cX5_init 57 = .ok (.putfield 28, 3) := by decide +kernel
theorem dX5_init_60 : decode cX5_init 60 = .ok (.aload_n 0, 1) := by decide +kernel
theorem dX5_init_61 : decode cX5_init 61 = .ok (.bipush 6, 2) := by decide +kernel
theorem dX5_init_63 : decode cX5_init 63 = .ok (.newarray .int, 2) := by decide +kernel
theorem dX5_init_65 : decode cX5_init 65 = .ok (.putfield 31, 3) := by decide +kernel
theorem dX5_init_68 : decode cX5_init 68 = .ok (.aload_n 0, 1) := by decide +kernel
theorem dX5_init_69 : decode cX5_init 69 = .ok (.bipush 6, 2) := by decide +kernel
theorem dX5_init_71 : decode cX5_init 71 = .ok (.newarray .boolean, 2) := by decide +kernel
theorem dX5_init_73 : decode cX5_init 73 = .ok (.putfield 34, 3) := by decide +kernel
theorem dX5_init_76 : decode cX5_init 76 = .ok (.aload_n 0, 1) := by decide +kernel
theorem dX5_init_77 : decode cX5_init 77 = .ok (.bipush 6, 2) := by decide +kernel
theorem dX5_init_79 : decode cX5_init 79 = .ok (.newarray .int, 2) := by decide +kernel
theorem dX5_init_81 : decode cX5_init 81 = .ok (.putfield 38, 3) := by decide +kernel
theorem dX5_init_84 : decode cX5_init 84 = .ok (.aload_n 0, 1) := by decide +kernel
theorem dX5_init_85 : decode cX5_init 85 = .ok (.bipush 6, 2) := by decide +kernel
theorem dX5_init_87 : decode cX5_init 87 = .ok (.newarray .int, 2) := by decide +kernel
theorem dX5_init_89 : decode cX5_init 89 = .ok (.putfield 41, 3) := by decide +kernel
theorem dX5_init_92 : decode cX5_init 92 = .ok (.aload_n 0, 1) := by decide +kernel
theorem dX5_init_93 : decode cX5_init 93 = .ok (.bipush 30, 2) := by decide +kernel
theorem dX5_init_95 : decode cX5_init 95 = .ok (.putfield 44, 3) := by decide +kernel
theorem dX5_init_98 : decode cX5_init 98 = .ok (.aload_n 0, 1) := by decide +kernel
theorem dX5_init_99 : decode cX5_init 99 = .ok (.bipush 40, 2) := by decide +kernel
theorem dX5_init_101 : decode cX5_init 101 = .ok (.newarray .int, 2) := by decide +kernel
theorem dX5_init_103 : decode cX5_init 103 = .ok (.putfield 48, 3) := by decide +kernel
theorem dX5_init_106 : decode cX5_init 106 = .ok (.aload_n 0, 1) := by decide +kernel
theorem dX5_init_107 : decode cX5_init 107 = .ok (.bipush 40, 2) := by decide +kernel
theorem dX5_init_109 : decode cX5_init 109 = .ok (.newarray .int, 2) := by decide +kernel
theorem dX5_init_111 : decode cX5_init 111 = .ok (.putfield 51, 3) := by decide +kernel
theorem dX5_init_114 : decode cX5_init 114 = .ok (.aload_n 0, 1) := by decide +kernel
theorem dX5_init_115 : decode cX5_init 115 = .ok (.bipush 40, 2) := by decide +kernel
theorem dX5_init_117 : decode cX5_init 117 = .ok (.newarray .int, 2) := by decide +kernel
theorem dX5_init_119 : decode cX5_init 119 = .ok (.putfield 54, 3) := by decide +kernel
theorem dX5_init_122 : decode cX5_init 122 = .ok (.aload_n 0, 1) := by decide +kernel
theorem dX5_init_123 : decode cX5_init 123 = .ok (.bipush 40, 2) := by decide +kernel
theorem dX5_init_125 : decode cX5_init 125 = .ok (.newarray .int, 2) := by decide +kernel
theorem dX5_init_127 : decode cX5_init 127 = .ok (.putfield 57, 3) := by decide +kernel
theorem dX5_init_130 : decode cX5_init 130 = .ok (.aload_n 0, 1) := by decide +kernel
theorem dX5_init_131 : decode cX5_init 131 = .ok (.bipush 40, 2) := by decide +kernel
theorem dX5_init_133 : decode cX5_init 133 = .ok (.newarray .int, 2) := by decide +kernel
theorem dX5_init_135 : decode cX5_init 135 = .ok (.putfield 60, 3) := by decide +kernel
theorem dX5_init_138 : decode cX5_init 138 = .ok (.aload_n 0, 1) := by decide +kernel
theorem dX5_init_139 : decode cX5_init 139 = .ok (.bipush 40, 2) := by decide +kernel
theorem dX5_init_141 : decode cX5_init 141 = .ok (.newarray .int, 2) := by decide +kernel
theorem dX5_init_143 : decode cX5_init 143 = .ok (.putfield 63, 3) := by decide +kernel
theorem dX5_init_146 : decode cX5_init 146 = .ok (.aload_n 0, 1) := by decide +kernel
theorem dX5_init_147 : decode cX5_init 147 = .ok (.iconst (-1), 1) := by decide +kernel
theorem dX5_init_148 : decode cX5_init 148 = .ok (.putfield 66, 3) := by decide +kernel
theorem dX5_init_151 : decode cX5_init 151 = .ok (.aload_n 0, 1) := by decide +kernel
theorem dX5_init_152 : decode cX5_init 152 = .ok (.sipush 7680, 3) := by decide +kernel
theorem dX5_init_155 : decode cX5_init 155 = .ok (.newarray .int, 2) := by decide +kernel
theorem dX5_init_157 : decode cX5_init 157 = .ok (.putfield 69, 3) := by decide +kernel
theorem dX5_init_160 : decode cX5_init 160 = .ok (.aload_n 0, 1) := by decide +kernel
theorem dX5_init_161 : decode cX5_init 161 = .ok (.bipush 40, 2) := by decide +kernel
theorem dX5_init_163 : decode cX5_init 163 = .ok (.newarray .int, 2) := by decide +kernel
theorem dX5_init_165 : decode cX5_init 165 = .ok (.putfield 72, 3) := by decide +kernel
theorem dX5_init_168 : decode cX5_init 168 = .ok (.aload_n 0, 1) := by decide +kernel
theorem dX5_init_169 : decode cX5_init 169 = .ok (.bipush 8, 2) := by decide +kernel
theorem dX5_init_171 : decode cX5_init 171 = .ok (.newarray .int, 2) := by decide +kernel
theorem dX5_init_173 : decode cX5_init 173 = .ok (.putfield 75, 3) := by decide +kernel
theorem dX5_init_176 : decode cX5_init 176 = .ok (.aload_n 0, 1) := by decide +kernel
theorem dX5_init_177 : decode cX5_init 177 = .ok (.iconst 3, 1) := by decide +kernel
theorem dX5_init_178 : decode cX5_init 178 = .ok (.newarray .int, 2) := by decide +kernel
theorem dX5_init_180 : decode cX5_init 180 = .ok (.putfield 78, 3) := by decide +kernel
theorem dX5_init_183 : decode cX5_init 183 = .ok (.aload_n 0, 1) := by decide +kernel
theorem dX5_init_184 : decode cX5_init 184 = .ok (.iconst 3, 1) := by decide +kernel
theorem dX5_init_185 : decode cX5_init 185 = .ok (.newarray .int, 2) := by decide +kernel
theorem dX5_init_187 : decode cX5_init 187 = .ok (.putfield 81, 3) := by decide +kernel
theorem dX5_init_190 : decode cX5_init 190 = .ok (.aload_n 0, 1) := by decide +kernel
theorem dX5_init_191 : decode cX5_init 191 = .ok (.iconst 3, 1) := by decide +kernel
theorem dX5_init_192 : decode cX5_init 192 = .ok (.newarray .int, 2) := by decide +kernel
theorem dX5_init_194 : decode cX5_init 194 = .ok (.putfield 84, 3) := by decide +kernel
theorem dX5_init_197 : decode cX5_init 197 = .ok (.aload_n 0, 1) := by decide +kernel
theorem dX5_init_198 : decode cX5_init 198 = .ok (.iconst 3, 1) := by decide +kernel
theorem dX5_init_199 : decode cX5_init 199 = .ok (.newarray .int, 2) := by decide +kernel
theorem dX5_init_201 : decode cX5_init 201 = .ok (.putfield 87, 3) := by decide +kernel
theorem dX5_init_204 : decode cX5_init 204 = .ok (.aload_n 0, 1) := by decide +kernel
theorem dX5_init_205 : decode cX5_init 205 = .ok (.iconst 3, 1) := by decide +kernel
theorem dX5_init_206 : decode cX5_init 206 = .ok (.newarray .int, 2) := by decide +kernel
theorem dX5_init_208 : decode cX5_init 208 = .ok (.putfield 90, 3) := by decide +kernel
theorem dX5_init_211 : decode cX5_init 211 = .ok (.aload_n 0, 1) := by decide +kernel
theorem dX5_init_212 : decode cX5_init 212 = .ok (.iconst 3, 1) := by decide +kernel
theorem dX5_init_213 : decode cX5_init 213 = .ok (.newarray .int, 2) := by decide +kernel
theorem dX5_init_215 : decode cX5_init 215 = .ok (.putfield 93, 3) := by decide +kernel
theorem dX5_init_218 : decode cX5_init 218 = .ok (.aload_n 0, 1) := by decide +kernel
theorem dX5_init_219 : decode cX5_init 219 = .ok (.iconst 3, 1) := by decide +kernel
theorem dX5_init_220 : decode cX5_init 220 = .ok (.newarray .int, 2) := by decide +kernel
theorem dX5_init_222 : decode cX5_init 222 = .ok (.putfield 96, 3) := by decide +kernel
theorem dX5_init_225 : decode cX5_init 225 = .ok (.aload_n 0, 1) := by decide +kernel
theorem dX5_init_226 : decode cX5_init 226 = .ok (.iconst 3, 1) := by decide +kernel
theorem dX5_init_227 : decode cX5_init 227 = .ok (.newarray .int, 2) := by decide +kernel
theorem dX5_init_229 : decode cX5_init 229 = .ok (.putfield 99, 3) := by decide +kernel
theorem dX5_init_232 : decode cX5_init 232 = .ok (.return_, 1) := by decide +kernel
theorem dX5_thrown_0 : decode cX5_thrown 0 = .ok (.aload_n 0, 1) := by decide +kernel
theorem dX5_thrown_1 : decode cX5_thrown 1 = .ok (.getfield 102, 3) := by decide +kernel
theorem dX5_thrown_4 : decode cX5_thrown 4 = .ok (.ireturn, 1) := by decide +kernel
theorem dX5_in_0 : decode cX5_in 0 = .ok (.iload_n 0, 1) := by decide +kernel
theorem dX5_in_1 : decode cX5_in 1 = .ok (.iload_n 1, 1) := by decide +kernel
theorem dX5_in_2 : decode cX5_in 2 = .ok (.if_icmp .lt 12, 3) := by decide +kernel
theorem dX5_in_5 : decode cX5_in 5 = .ok (.iload_n 0, 1) := by decide +kernel
theorem dX5_in_6 : decode cX5_in 6 = .ok (.iload_n 2, 1) := by decide +kernel
theorem dX5_in_7 : decode cX5_in 7 = .ok (.if_icmp .gt 7, 3) := by decide +kernel
theorem dX5_in_10 : decode cX5_in 10 = .ok (.iconst 1, 1) := by decide +kernel
theorem dX5_in_11 : decode cX5_in 11 = .ok (.goto 4, 3) := by decide +kernel
theorem dX5_in_14 : decode cX5_in 14 = .ok (.iconst 0, 1) := by decide +kernel
theorem dX5_in_15 : decode cX5_in 15 = .ok (.ireturn, 1) := by decide +kernel
theorem dX5_isPlace_0 : decode cX5_isPlace 0 = .ok (.iload_n 1, 1) := by decide +kernel
theorem dX5_isPlace_1 : decode cX5_isPlace 1 = .ok (.iconst 0, 1) := by decide +kernel
theorem dX5_isPlace_2 : decode cX5_isPlace 2 = .ok (.aload_n 0, 1) := by decide +kernel
theorem dX5_isPlace_3 : decode cX5_isPlace 3 = .ok (.getfield 105, 3) := by decide +kernel
theorem dX5_isPlace_6 : decode cX5_isPlace 6 = .ok (.iconst 1, 1) := by decide +kernel
theorem dX5_isPlace_7 : decode cX5_isPlace 7 = .ok (.isub, 1) := by decide +kernel
theorem dX5_isPlace_8 : decode cX5_isPlace 8 = .ok (.invokestatic 108, 3) := by decide +kernel
theorem dX5_isPlace_11 : decode cX5_isPlace 11 = .ok (.ireturn, 1) := by decide +kernel
theorem dX5_isRider_0 : decode cX5_isRider 0 = .ok (.iload_n 1, 1) := by decide +kernel
theorem dX5_isRider_1 : decode cX5_isRider 1 = .ok (.iconst 0, 1) := by decide +kernel
theorem dX5_isRider_2 : decode cX5_isRider 2 = .ok (.aload_n 0, 1) := by decide +kernel
theorem dX5_isRider_3 : decode cX5_isRider 3 = .ok (.getfield 112, 3) := by decide +kernel
theorem dX5_isRider_6 : decode cX5_isRider 6 = .ok (.iconst 1, 1) := by decide +kernel
theorem dX5_isRider_7 : decode cX5_isRider 7 = .ok (.isub, 1) := by decide +kernel
theorem dX5_isRider_8 : decode cX5_isRider 8 = .ok (.invokestatic 108, 3) := by decide +kernel
theorem dX5_isRider_11 : decode cX5_isRider 11 = .ok (.ireturn, 1) := by decide +kernel
theorem dX5_isCall_0 : decode cX5_isCall 0 = .ok (.iload_n 1, 1) := by decide +kernel
theorem dX5_isCall_1 : decode cX5_isCall 1 = .ok (.iconst 0, 1) := by decide +kernel
theorem dX5_isCall_2 : decode cX5_isCall 2 = .ok (.aload_n 0, 1) := by decide +kernel
theorem dX5_isCall_3 : decode cX5_isCall 3 = .ok (.getfield 115, 3) := by decide +kernel
theorem dX5_isCall_6 : decode cX5_isCall 6 = .ok (.iconst 1, 1) := by decide +kernel
theorem dX5_isCall_7 : decode cX5_isCall 7 = .ok (.isub, 1) := by decide +kernel
theorem dX5_isCall_8 : decode cX5_isCall 8 = .ok (.invokestatic 108, 3) := by decide +kernel
theorem dX5_isCall_11 : decode cX5_isCall 11 = .ok (.ireturn, 1) := by decide +kernel
theorem dX5_place_0 : decode cX5_place 0 = .ok (.aload_n 0, 1) := by decide +kernel
theorem dX5_place_1 : decode cX5_place 1 = .ok (.iconst 0, 1) := by decide +kernel
theorem dX5_place_2 : decode cX5_place 2 = .ok (.putfield 102, 3) := by decide +kernel
theorem dX5_place_5 : decode cX5_place 5 = .ok (.aload_n 0, 1) := by decide +kernel
theorem dX5_place_6 : decode cX5_place 6 = .ok (.getfield 105, 3) := by decide +kernel
theorem dX5_place_9 : decode cX5_place 9 = .ok (.bipush 8, 2) := by decide +kernel
theorem dX5_place_11 : decode cX5_place 11 = .ok (.if_icmp .ne 5, 3) := by decide +kernel
theorem dX5_place_14 : decode cX5_place 14 = .ok (.iconst (-1), 1) := by decide +kernel
theorem dX5_place_15 : decode cX5_place 15 = .ok (.ireturn, 1) := by decide +kernel
theorem dX5_place_16 : decode cX5_place 16 = .ok (.aload_n 0, 1) := by decide +kernel
theorem dX5_place_17 : decode cX5_place 17 = .ok (.dup, 1) := by decide +kernel
theorem dX5_place_18 : decode cX5_place 18 = .ok (.getfield 105, 3) := by decide +kernel
theorem dX5_place_21 : decode cX5_place 21 = .ok (.iconst 1, 1) := by decide +kernel
theorem dX5_place_22 : decode cX5_place 22 = .ok (.iadd, 1) := by decide +kernel
theorem dX5_place_23 : decode cX5_place 23 = .ok (.putfield 105, 3) := by decide +kernel
theorem dX5_place_26 : decode cX5_place 26 = .ok (.aload_n 0, 1) := by decide +kernel
theorem dX5_place_27 : decode cX5_place 27 = .ok (.getfield 105, 3) := by decide +kernel
theorem dX5_place_30 : decode cX5_place 30 = .ok (.iconst 1, 1) := by decide +kernel
theorem dX5_place_31 : decode cX5_place 31 = .ok (.isub, 1) := by decide +kernel
theorem dX5_place_32 : decode cX5_place 32 = .ok (.ireturn, 1) := by decide +kernel
theorem dX5_road_0 : decode cX5_road 0 = .ok (.aload_n 0, 1) := by decide +kernel
theorem dX5_road_1 : decode cX5_road 1 = .ok (.iconst 0, 1) := by decide +kernel
theorem dX5_road_2 : decode cX5_road 2 = .ok (.putfield 102, 3) := by decide +kernel
theorem dX5_road_5 : decode cX5_road 5 = .ok (.aload_n 0, 1) := by decide +kernel
theorem dX5_road_6 : decode cX5_road 6 = .ok (.iload_n 1, 1) := by decide +kernel
theorem dX5_road_7 : decode cX5_road 7 = .ok (.invokevirtual 118, 3) := by decide +kernel
theorem dX5_road_10 : decode cX5_road 10 = .ok (.ifCond .eq 27, 3) := by decide +kernel
theorem dX5_road_13 : decode cX5_road 13 = .ok (.aload_n 0, 1) := by decide +kernel
theorem dX5_road_14 : decode cX5_road 14 = .ok (.iload_n 2, 1) := by decide +kernel
theorem dX5_road_15 : decode cX5_road 15 = .ok (.invokevirtual 118, 3) := by decide +kernel
theorem dX5_road_18 : decode cX5_road 18 = .ok (.ifCond .eq 19, 3) := by decide +kernel
theorem dX5_road_21 : decode cX5_road 21 = .ok (.iload_n 1, 1) := by decide +kernel
theorem dX5_road_22 : decode cX5_road 22 = .ok (.iload_n 2, 1) := by decide +kernel
theorem dX5_road_23 : decode cX5_road 23 = .ok (.if_icmp .eq 14, 3) := by decide +kernel
theorem dX5_road_26 : decode cX5_road 26 = .ok (.iload_n 3, 1) := by decide +kernel
theorem dX5_road_27 : decode cX5_road 27 = .ok (.iconst 0, 1) := by decide +kernel
theorem dX5_road_28 : decode cX5_road 28 = .ok (.sipush 600, 3) := by decide +kernel
theorem dX5_road_31 : decode cX5_road 31 = .ok (.invokestatic 108, 3) := by decide +kernel
theorem dX5_road_34 : decode cX5_road 34 = .ok (.ifCond .ne 5, 3) := by decide +kernel
theorem dX5_road_37 : decode cX5_road 37 = .ok (.iconst 0, 1) := by decide +kernel
theorem dX5_road_38 : decode cX5_road 38 = .ok (.ireturn, 1) := by decide +kernel
theorem dX5_road_39 : decode cX5_road 39 = .ok (.aload_n 0, 1) := by decide +kernel
theorem dX5_road_40 : decode cX5_road 40 = .ok (.getfield 9, 3) := by decide +kernel
theorem dX5_road_43 : decode cX5_road 43 = .ok (.bipush 8, 2) := by decide +kernel
theorem dX5_road_45 : decode cX5_road 45 = .ok (.iload_n 1, 1) := by decide +kernel
theorem dX5_road_46 : decode cX5_road 46 = .ok (.imul, 1) := by decide +kernel
theorem dX5_road_47 : decode cX5_road 47 = .ok (.iload_n 2, 1) := by decide +kernel
theorem dX5_road_48 : decode cX5_road 48 = .ok (.iadd, 1) := by decide +kernel
theorem dX5_road_49 : decode cX5_road 49 = .ok (.iload_n 3, 1) := by decide +kernel
theorem dX5_road_50 : decode cX5_road 50 = .ok (.iastore, 1) := by decide +kernel
theorem dX5_road_51 : decode cX5_road 51 = .ok (.aload_n 0, 1) := by decide +kernel
theorem dX5_road_52 : decode cX5_road 52 = .ok (.getfield 9, 3) := by decide +kernel
theorem dX5_road_55 : decode cX5_road 55 = .ok (.bipush 8, 2) := by decide +kernel
theorem dX5_road_57 : decode cX5_road 57 = .ok (.iload_n 2, 1) := by decide +kernel
theorem dX5_road_58 : decode cX5_road 58 = .ok (.imul, 1) := by decide +kernel
theorem dX5_road_59 : decode cX5_road 59 = .ok (.iload_n 1, 1) := by decide +kernel
theorem dX5_road_60 : decode cX5_road 60 = .ok (.iadd, 1) := by decide +kernel
theorem dX5_road_61 : decode cX5_road 61 = .ok (.iload_n 3, 1) := by decide +kernel
theorem dX5_road_62 : decode cX5_road 62 = .ok (.iastore, 1) := by decide +kernel
theorem dX5_road_63 : decode cX5_road 63 = .ok (.iconst 1, 1) := by decide +kernel
theorem dX5_road_64 : decode cX5_road 64 = .ok (.ireturn, 1) := by decide +kernel
theorem dX5_rider_0 : decode cX5_rider 0 = .ok (.aload_n 0, 1) := by decide +kernel
theorem dX5_rider_1 : decode cX5_rider 1 = .ok (.iconst 0, 1) := by decide +kernel
theorem dX5_rider_2 : decode cX5_rider 2 = .ok (.putfield 102, 3) := by decide +kernel
theorem dX5_rider_5 : decode cX5_rider 5 = .ok (.aload_n 0, 1) := by decide +kernel
theorem dX5_rider_6 : decode cX5_rider 6 = .ok (.iload_n 1, 1) := by decide +kernel
theorem dX5_rider_7 : decode cX5_rider 7 = .ok (.invokevirtual 118, 3) := by decide +kernel
theorem dX5_rider_10 : decode cX5_rider 10 = .ok (.ifCond .eq 70, 3) := by decide +kernel
theorem dX5_rider_13 : decode cX5_rider 13 = .ok (.iload_n 2, 1) := by decide +kernel
theorem dX5_rider_14 : decode cX5_rider 14 = .ok (.iconst 0, 1) := by decide +kernel
theorem dX5_rider_15 : decode cX5_rider 15 = .ok (.iconst 1, 1) := by decide +kernel
theorem dX5_rider_16 : decode cX5_rider 16 = .ok (.aload_n 0, 1) := by decide +kernel
theorem dX5_rider_17 : decode cX5_rider 17 = .ok (.getfield 105, 3) := by decide +kernel
theorem dX5_rider_20 : decode cX5_rider 20 = .ok (.ishl, 1) := by decide +kernel
theorem dX5_rider_21 : decode cX5_rider 21 = .ok (.iconst 1, 1) := by decide +kernel
theorem dX5_rider_22 : decode cX5_rider 22 = .ok (.isub, 1) := by decide +kernel
theorem dX5_rider_23 : decode cX5_rider 23 = .ok (.invokestatic 108, 3) := by decide +kernel
theorem dX5_rider_26 : decode cX5_rider 26 = .ok (.ifCond .eq 54, 3) := by decide +kernel
theorem dX5_rider_29 : decode cX5_rider 29 = .ok (.iload_n 2, 1) := by decide +kernel
theorem dX5_rider_30 : decode cX5_rider 30 = .ok (.iload_n 1, 1) := by decide +kernel
theorem dX5_rider_31 : decode cX5_rider 31 = .ok (.ishr, 1) := by decide +kernel
theorem dX5_rider_32 : decode cX5_rider 32 = .ok (.iconst 1, 1) := by decide +kernel
theorem dX5_rider_33 : decode cX5_rider 33 = .ok (.iand, 1) := by decide +kernel
theorem dX5_rider_34 : decode cX5_rider 34 = .ok (.ifCond .eq 46, 3) := by decide +kernel
theorem dX5_rider_37 : decode cX5_rider 37 = .ok (.iload_n 3, 1) := by decide +kernel
theorem dX5_rider_38 : decode cX5_rider 38 = .ok (.iconst 0, 1) := by decide +kernel
theorem dX5_rider_39 : decode cX5_rider 39 = .ok (.sipush 4319, 3) := by decide +kernel
theorem dX5_rider_42 : decode cX5_rider 42 = .ok (.invokestatic 108, 3) := by decide +kernel
theorem dX5_rider_45 : decode cX5_rider 45 = .ok (.ifCond .eq 35, 3) := by decide +kernel
theorem dX5_rider_48 : decode cX5_rider 48 = .ok (.iload 4, 2) := by decide +kernel
theorem dX5_rider_50 : decode cX5_rider 50 = .ok (.iload_n 3, 1) := by decide +kernel
theorem dX5_rider_51 : decode cX5_rider 51 = .ok (.sipush 4319, 3) := by decide +kernel
theorem dX5_rider_54 : decode cX5_rider 54 = .ok (.invokestatic 108, 3) := by decide +kernel
theorem dX5_rider_57 : decode cX5_rider 57 = .ok (.ifCond .eq 23, 3) := by decide +kernel
theorem dX5_rider_60 : decode cX5_rider 60 = .ok (.iload 5, 2) := by decide +kernel
theorem dX5_rider_62 : decode cX5_rider 62 = .ok (.iconst 0, 1) := by decide +kernel
theorem dX5_rider_63 : decode cX5_rider 63 = .ok (.bipush 15, 2) := by decide +kernel
theorem dX5_rider_65 : decode cX5_rider 65 = .ok (.invokestatic 108, 3) := by decide +kernel
theorem dX5_rider_68 : decode cX5_rider 68 = .ok (.ifCond .eq 12, 3) := by decide +kernel
theorem dX5_rider_71 : decode cX5_rider 71 = .ok (.aload_n 0, 1) := by decide +kernel
theorem dX5_rider_72 : decode cX5_rider 72 = .ok (.getfield 112, 3) := by decide +kernel
theorem dX5_rider_75 : decode cX5_rider 75 = .ok (.bipush 6, 2) := by decide +kernel
theorem dX5_rider_77 : decode cX5_rider 77 = .ok (.if_icmp .ne 5, 3) := by decide +kernel
theorem dX5_rider_80 : decode cX5_rider 80 = .ok (.iconst (-1), 1) := by decide +kernel
theorem dX5_rider_81 : decode cX5_rider 81 = .ok (.ireturn, 1) := by decide +kernel
theorem dX5_rider_82 : decode cX5_rider 82 = .ok (.aload_n 0, 1) := by decide +kernel
theorem dX5_rider_83 : decode cX5_rider 83 = .ok (.getfield 13, 3) := by decide +kernel
theorem dX5_rider_86 : decode cX5_rider 86 = .ok (.aload_n 0, 1) := by decide +kernel
theorem dX5_rider_87 : decode cX5_rider 87 = .ok (.getfield 112, 3) := by decide +kernel
theorem dX5_rider_90 : decode cX5_rider 90 = .ok (.iload_n 1, 1) := by decide +kernel
theorem dX5_rider_91 : decode cX5_rider 91 = .ok (.iastore, 1) := by decide +kernel
theorem dX5_rider_92 : decode cX5_rider 92 = .ok (.aload_n 0, 1) := by decide +kernel
theorem dX5_rider_93 : decode cX5_rider 93 = .ok (.getfield 16, 3) := by decide +kernel
theorem dX5_rider_96 : decode cX5_rider 96 = .ok (.aload_n 0, 1) := by decide +kernel
theorem dX5_rider_97 : decode cX5_rider 97 = .ok (.getfield 112, 3) := by decide +kernel
theorem dX5_rider_100 : decode cX5_rider 100 = .ok (.iload_n 2, 1) := by decide +kernel
theorem dX5_rider_101 : decode cX5_rider 101 = .ok (.iastore, 1) := by decide +kernel
theorem dX5_rider_102 : decode cX5_rider 102 = .ok (.aload_n 0, 1) := by decide +kernel
theorem dX5_rider_103 : decode cX5_rider 103 = .ok (.getfield 19, 3) := by decide +kernel
theorem dX5_rider_106 : decode cX5_rider 106 = .ok (.aload_n 0, 1) := by decide +kernel
theorem dX5_rider_107 : decode cX5_rider 107 = .ok (.getfield 112, 3) := by decide +kernel
theorem dX5_rider_110 : decode cX5_rider 110 = .ok (.iload_n 3, 1) := by decide +kernel
theorem dX5_rider_111 : decode cX5_rider 111 = .ok (.iastore, 1) := by decide +kernel
theorem dX5_rider_112 : decode cX5_rider 112 = .ok (.aload_n 0, 1) := by decide +kernel
theorem dX5_rider_113 : decode cX5_rider 113 = .ok (.getfield 22, 3) := by decide +kernel
theorem dX5_rider_116 : decode cX5_rider 116 = .ok (.aload_n 0, 1) := by decide +kernel
theorem dX5_rider_117 : decode cX5_rider 117 = .ok (.getfield 112, 3) := by decide +kernel
theorem dX5_rider_120 : decode cX5_rider 120 = .ok (.iload 4, 2) := by decide +kernel
theorem dX5_rider_122 : decode cX5_rider 122 = .ok (.iastore, 1) := by decide +kernel
theorem dX5_rider_123 : decode cX5_rider 123 = .ok (.aload_n 0, 1) := by decide +kernel
theorem dX5_rider_124 : decode cX5_rider 124 = .ok (.getfield 25, 3) := by decide +kernel
theorem dX5_rider_127 : decode cX5_rider 127 = .ok (.aload_n 0, 1) := by decide +kernel
theorem dX5_rider_128 : decode cX5_rider 128 = .ok (.getfield 112, 3) := by decide +kernel
theorem dX5_rider_131 : decode cX5_rider 131 = .ok (.iload 5, 2) := by decide +kernel
theorem dX5_rider_133 : decode cX5_rider 133 = .ok (.iastore, 1) := by decide +kernel
theorem dX5_rider_134 : decode cX5_rider 134 = .ok (.aload_n 0, 1) := by decide +kernel
theorem dX5_rider_135 : decode cX5_rider 135 = .ok (.getfield 28, 3) := by decide +kernel
theorem dX5_rider_138 : decode cX5_rider 138 = .ok (.aload_n 0, 1) := by decide +kernel
theorem dX5_rider_139 : decode cX5_rider 139 = .ok (.getfield 112, 3) := by decide +kernel
theorem dX5_rider_142 : decode cX5_rider 142 = .ok (.iload_n 1, 1) := by decide +kernel
theorem dX5_rider_143 : decode cX5_rider 143 = .ok (.iastore, 1) := by decide +kernel
theorem dX5_rider_144 : decode cX5_rider 144 = .ok (.aload_n 0, 1) := by decide +kernel
theorem dX5_rider_145 : decode cX5_rider 145 = .ok (.getfield 31, 3) := by decide +kernel
theorem dX5_rider_148 : decode cX5_rider 148 = .ok (.aload_n 0, 1) := by decide +kernel
theorem dX5_rider_149 : decode cX5_rider 149 = .ok (.getfield 112, 3) := by decide +kernel
theorem dX5_rider_152 : decode cX5_rider 152 = .ok (.iload_n 3, 1) := by decide +kernel
theorem dX5_rider_153 : decode cX5_rider 153 = .ok (.iastore, 1) := by decide +kernel
theorem dX5_rider_154 : decode cX5_rider 154 = .ok (.aload_n 0, 1) := by decide +kernel
theorem dX5_rider_155 : decode cX5_rider 155 = .ok (.dup, 1) := by decide +kernel
theorem dX5_rider_156 : decode cX5_rider 156 = .ok (.getfield 112, 3) := by decide +kernel
theorem dX5_rider_159 : decode cX5_rider 159 = .ok (.iconst 1, 1) := by decide +kernel
theorem dX5_rider_160 : decode cX5_rider 160 = .ok (.iadd, 1) := by decide +kernel
theorem dX5_rider_161 : decode cX5_rider 161 = .ok (.putfield 112, 3) := by decide +kernel
theorem dX5_rider_164 : decode cX5_rider 164 = .ok (.aload_n 0, 1) := by decide +kernel
theorem dX5_rider_165 : decode cX5_rider 165 = .ok (.getfield 112, 3) := by decide +kernel
theorem dX5_rider_168 : decode cX5_rider 168 = .ok (.iconst 1, 1) := by decide +kernel
theorem dX5_rider_169 : decode cX5_rider 169 = .ok (.isub, 1) := by decide +kernel
theorem dX5_rider_170 : decode cX5_rider 170 = .ok (.ireturn, 1) := by decide +kernel
theorem dX5_rest_0 : decode cX5_rest 0 = .ok (.aload_n 0, 1) := by decide +kernel
theorem dX5_rest_1 : decode cX5_rest 1 = .ok (.iconst 0, 1) := by decide +kernel
theorem dX5_rest_2 : decode cX5_rest 2 = .ok (.putfield 102, 3) := by decide +kernel
theorem dX5_rest_5 : decode cX5_rest 5 = .ok (.iload_n 1, 1) := by decide +kernel
theorem dX5_rest_6 : decode cX5_rest 6 = .ok (.iconst 0, 1) := by decide +kernel
theorem dX5_rest_7 : decode cX5_rest 7 = .ok (.sipush 600, 3) := by decide +kernel
theorem dX5_rest_10 : decode cX5_rest 10 = .ok (.invokestatic 108, 3) := by decide +kernel
theorem dX5_rest_13 : decode cX5_rest 13 = .ok (.ifCond .ne 5, 3) := by decide +kernel
theorem dX5_rest_16 : decode cX5_rest 16 = .ok (.iconst (-1), 1) := by decide +kernel
theorem dX5_rest_17 : decode cX5_rest 17 = .ok (.ireturn, 1) := by decide +kernel
theorem dX5_rest_18 : decode cX5_rest 18 = .ok (.aload_n 0, 1) := by decide +kernel
theorem dX5_rest_19 : decode cX5_rest 19 = .ok (.getfield 44, 3) := by decide +kernel
theorem dX5_rest_22 : decode cX5_rest 22 = .ok (.istore_n 2, 1) := by decide +kernel
theorem dX5_rest_23 : decode cX5_rest 23 = .ok (.aload_n 0, 1) := by decide +kernel
theorem dX5_rest_24 : decode cX5_rest 24 = .ok (.iload_n 1, 1) := by decide +kernel
theorem dX5_rest_25 : decode cX5_rest 25 = .ok (.putfield 44, 3) := by decide +kernel
theorem dX5_rest_28 : decode cX5_rest 28 = .ok (.iload_n 2, 1) := by decide +kernel
theorem dX5_rest_29 : decode cX5_rest 29 = .ok (.ireturn, 1) := by decide +kernel
theorem dX5_wayOf_0 : decode cX5_wayOf 0 = .ok (.aload_n 0, 1) := by decide +kernel
theorem dX5_wayOf_1 : decode cX5_wayOf 1 = .ok (.getfield 16, 3) := by decide +kernel
theorem dX5_wayOf_4 : decode cX5_wayOf 4 = .ok (.iload_n 1, 1) := by decide +kernel
theorem dX5_wayOf_5 : decode cX5_wayOf 5 = .ok (.iaload, 1) := by decide +kernel
theorem dX5_wayOf_6 : decode cX5_wayOf 6 = .ok (.iload_n 2, 1) := by decide +kernel
theorem dX5_wayOf_7 : decode cX5_wayOf 7 = .ok (.ishr, 1) := by decide +kernel
theorem dX5_wayOf_8 : decode cX5_wayOf 8 = .ok (.iconst 1, 1) := by decide +kernel
theorem dX5_wayOf_9 : decode cX5_wayOf 9 = .ok (.iand, 1) := by decide +kernel
theorem dX5_wayOf_10 : decode cX5_wayOf 10 = .ok (.ifCond .eq 16, 3) := by decide +kernel
theorem dX5_wayOf_13 : decode cX5_wayOf 13 = .ok (.aload_n 0, 1) := by decide +kernel
theorem dX5_wayOf_14 : decode cX5_wayOf 14 = .ok (.getfield 16, 3) := by decide +kernel
theorem dX5_wayOf_17 : decode cX5_wayOf 17 = .ok (.iload_n 1, 1) := by decide +kernel
theorem dX5_wayOf_18 : decode cX5_wayOf 18 = .ok (.iaload, 1) := by decide +kernel
theorem dX5_wayOf_19 : decode cX5_wayOf 19 = .ok (.iload_n 3, 1) := by decide +kernel
theorem dX5_wayOf_20 : decode cX5_wayOf 20 = .ok (.ishr, 1) := by decide +kernel
theorem dX5_wayOf_21 : decode cX5_wayOf 21 = .ok (.iconst 1, 1) := by decide +kernel
theorem dX5_wayOf_22 : decode cX5_wayOf 22 = .ok (.iand, 1) := by decide +kernel
theorem dX5_wayOf_23 : decode cX5_wayOf 23 = .ok (.ifCond .ne 6, 3) := by decide +kernel
theorem dX5_wayOf_26 : decode cX5_wayOf 26 = .ok (.ldc 122, 2) := by decide +kernel
theorem dX5_wayOf_28 : decode cX5_wayOf 28 = .ok (.ireturn, 1) := by decide +kernel
theorem dX5_wayOf_29 : decode cX5_wayOf 29 = .ok (.iconst 0, 1) := by decide +kernel
theorem dX5_wayOf_30 : decode cX5_wayOf 30 = .ok (.istore 4, 2) := by decide +kernel
theorem dX5_wayOf_32 : decode cX5_wayOf 32 = .ok (.iload 4, 2) := by decide +kernel
theorem dX5_wayOf_34 : decode cX5_wayOf 34 = .ok (.bipush 8, 2) := by decide +kernel
theorem dX5_wayOf_36 : decode cX5_wayOf 36 = .ok (.if_icmp .ge 28, 3) := by decide +kernel
theorem dX5_wayOf_39 : decode cX5_wayOf 39 = .ok (.aload_n 0, 1) := by decide +kernel
theorem dX5_wayOf_40 : decode cX5_wayOf 40 = .ok (.getfield 75, 3) := by decide +kernel
theorem dX5_wayOf_43 : decode cX5_wayOf 43 = .ok (.iload 4, 2) := by decide +kernel
theorem dX5_wayOf_45 : decode cX5_wayOf 45 = .ok (.iload 4, 2) := by decide +kernel
theorem dX5_wayOf_47 : decode cX5_wayOf 47 = .ok (.iload_n 2, 1) := by decide +kernel
theorem dX5_wayOf_48 : decode cX5_wayOf 48 = .ok (.if_icmp .ne 7, 3) := by decide +kernel
theorem dX5_wayOf_51 : decode cX5_wayOf 51 = .ok (.iconst 0, 1) := by decide +kernel
theorem dX5_wayOf_52 : decode cX5_wayOf 52 = .ok (.goto 5, 3) := by decide +kernel
theorem dX5_wayOf_55 : decode cX5_wayOf 55 = .ok (.ldc 122, 2) := by decide +kernel
theorem dX5_wayOf_57 : decode cX5_wayOf 57 = .ok (.iastore, 1) := by decide +kernel
theorem dX5_wayOf_58 : decode cX5_wayOf 58 = .ok (.iinc 4 1, 3) := by decide +kernel
theorem dX5_wayOf_61 : decode cX5_wayOf 61 = .ok (.goto (-29), 3) := by decide +kernel
theorem dX5_wayOf_64 : decode cX5_wayOf 64 = .ok (.iconst 1, 1) := by decide +kernel
theorem dX5_wayOf_65 : decode cX5_wayOf 65 = .ok (.istore 4, 2) := by decide +kernel
theorem dX5_wayOf_67 : decode cX5_wayOf 67 = .ok (.iload 4, 2) := by decide +kernel
theorem dX5_wayOf_69 : decode cX5_wayOf 69 = .ok (.aload_n 0, 1) := by decide +kernel
theorem dX5_wayOf_70 : decode cX5_wayOf 70 = .ok (.getfield 105, 3) := by decide +kernel
theorem dX5_wayOf_73 : decode cX5_wayOf 73 = .ok (.if_icmp .ge 145, 3) := by decide +kernel
theorem dX5_wayOf_76 : decode cX5_wayOf 76 = .ok (.iconst 0, 1) := by decide +kernel
theorem dX5_wayOf_77 : decode cX5_wayOf 77 = .ok (.istore 5, 2) := by decide +kernel
theorem dX5_wayOf_79 : decode cX5_wayOf 79 = .ok (.iload 5, 2) := by decide +kernel
theorem dX5_wayOf_81 : decode cX5_wayOf 81 = .ok (.aload_n 0, 1) := by decide +kernel
theorem dX5_wayOf_82 : decode cX5_wayOf 82 = .ok (.getfield 105, 3) := by decide +kernel
theorem dX5_wayOf_85 : decode cX5_wayOf 85 = .ok (.if_icmp .ge 127, 3) := by decide +kernel
theorem dX5_wayOf_88 : decode cX5_wayOf 88 = .ok (.iconst 0, 1) := by decide +kernel
theorem dX5_wayOf_89 : decode cX5_wayOf 89 = .ok (.istore 6, 2) := by decide +kernel
theorem dX5_wayOf_91 : decode cX5_wayOf 91 = .ok (.iload 6, 2) := by decide +kernel
theorem dX5_wayOf_93 : decode cX5_wayOf 93 = .ok (.aload_n 0, 1) := by decide +kernel
theorem dX5_wayOf_94 : decode cX5_wayOf 94 = .ok (.getfield 105, 3) := by decide +kernel
theorem dX5_wayOf_97 : decode cX5_wayOf 97 = .ok (.if_icmp .ge 109, 3) := by decide +kernel
theorem dX5_wayOf_100 : decode cX5_wayOf 100 = .ok (.aload_n 0, 1) := by decide +kernel
theorem dX5_wayOf_101 : decode cX5_wayOf 101 = .ok (.getfield 9, 3) := by decide +kernel
theorem dX5_wayOf_104 : decode cX5_wayOf 104 = .ok (.bipush 8, 2) := by decide +kernel
theorem dX5_wayOf_106 : decode cX5_wayOf 106 = .ok (.iload 5, 2) := by decide +kernel
theorem dX5_wayOf_108 : decode cX5_wayOf 108 = .ok (.imul, 1) := by decide +kernel
theorem dX5_wayOf_109 : decode cX5_wayOf 109 = .ok (.iload 6, 2) := by decide +kernel
theorem dX5_wayOf_111 : decode cX5_wayOf 111 = .ok (.iadd, 1) := by decide +kernel
theorem dX5_wayOf_112 : decode cX5_wayOf 112 = .ok (.iaload, 1) := by decide +kernel
theorem dX5_wayOf_113 : decode cX5_wayOf 113 = .ok (.istore 7, 2) := by decide +kernel
theorem dX5_wayOf_115 : decode cX5_wayOf 115 = .ok (.iload 7, 2) := by decide +kernel
theorem dX5_wayOf_117 : decode cX5_wayOf 117 = .ok (.ifCond .eq 83, 3) := by decide +kernel
theorem dX5_wayOf_120 : decode cX5_wayOf 120 = .ok (.aload_n 0, 1) := by decide +kernel
theorem dX5_wayOf_121 : decode cX5_wayOf 121 = .ok (.getfield 16, 3) := by decide +kernel
theorem dX5_wayOf_124 : decode cX5_wayOf 124 = .ok (.iload_n 1, 1) := by decide +kernel
theorem dX5_wayOf_125 : decode cX5_wayOf 125 = .ok (.iaload, 1) := by decide +kernel
theorem dX5_wayOf_126 : decode cX5_wayOf 126 = .ok (.iload 5, 2) := by decide +kernel
theorem dX5_wayOf_128 : decode cX5_wayOf 128 = .ok (.ishr, 1) := by decide +kernel
theorem dX5_wayOf_129 : decode cX5_wayOf 129 = .ok (.iconst 1, 1) := by decide +kernel
theorem dX5_wayOf_130 : decode cX5_wayOf 130 = .ok (.iand, 1) := by decide +kernel
theorem dX5_wayOf_131 : decode cX5_wayOf 131 = .ok (.ifCond .eq 69, 3) := by decide +kernel
theorem dX5_wayOf_134 : decode cX5_wayOf 134 = .ok (.aload_n 0, 1) := by decide +kernel
theorem dX5_wayOf_135 : decode cX5_wayOf 135 = .ok (.getfield 16, 3) := by decide +kernel
theorem dX5_wayOf_138 : decode cX5_wayOf 138 = .ok (.iload_n 1, 1) := by decide +kernel
theorem dX5_wayOf_139 : decode cX5_wayOf 139 = .ok (.iaload, 1) := by decide +kernel
theorem dX5_wayOf_140 : decode cX5_wayOf 140 = .ok (.iload 6, 2) := by decide +kernel
theorem dX5_wayOf_142 : decode cX5_wayOf 142 = .ok (.ishr, 1) := by decide +kernel
theorem dX5_wayOf_143 : decode cX5_wayOf 143 = .ok (.iconst 1, 1) := by decide +kernel
theorem dX5_wayOf_144 : decode cX5_wayOf 144 = .ok (.iand, 1) := by decide +kernel
theorem dX5_wayOf_145 : decode cX5_wayOf 145 = .ok (.ifCond .eq 55, 3) := by decide +kernel
theorem dX5_wayOf_148 : decode cX5_wayOf 148 = .ok (.aload_n 0, 1) := by decide +kernel
theorem dX5_wayOf_149 : decode cX5_wayOf 149 = .ok (.getfield 75, 3) := by decide +kernel
theorem dX5_wayOf_152 : decode cX5_wayOf 152 = .ok (.iload 5, 2) := by decide +kernel
theorem dX5_wayOf_154 : decode cX5_wayOf 154 = .ok (.iaload, 1) := by decide +kernel
theorem dX5_wayOf_155 : decode cX5_wayOf 155 = .ok (.ldc 122, 2) := by decide +kernel
theorem dX5_wayOf_157 : decode cX5_wayOf 157 = .ok (.if_icmp .ne 6, 3) := by decide +kernel
theorem dX5_wayOf_160 : decode cX5_wayOf 160 = .ok (.goto 40, 3) := by decide +kernel
theorem dX5_wayOf_163 : decode cX5_wayOf 163 = .ok (.aload_n 0, 1) := by decide +kernel
theorem dX5_wayOf_164 : decode cX5_wayOf 164 = .ok (.getfield 75, 3) := by decide +kernel
theorem dX5_wayOf_167 : decode cX5_wayOf 167 = .ok (.iload 5, 2) := by decide +kernel
theorem dX5_wayOf_169 : decode cX5_wayOf 169 = .ok (.iaload, 1) := by decide +kernel
theorem dX5_wayOf_170 : decode cX5_wayOf 170 = .ok (.iload 7, 2) := by decide +kernel
theorem dX5_wayOf_172 : decode cX5_wayOf 172 = .ok (.iadd, 1) := by decide +kernel
theorem dX5_wayOf_173 : decode cX5_wayOf 173 = .ok (.aload_n 0, 1) := by decide +kernel
theorem dX5_wayOf_174 : decode cX5_wayOf 174 = .ok (.getfield 75, 3) := by decide +kernel
theorem dX5_wayOf_177 : decode cX5_wayOf 177 = .ok (.iload 6, 2) := by decide +kernel
theorem dX5_wayOf_179 : decode cX5_wayOf 179 = .ok (.iaload, 1) := by decide +kernel
theorem dX5_wayOf_180 : decode cX5_wayOf 180 = .ok (.if_icmp .ge 20, 3) := by decide +kernel
theorem dX5_wayOf_183 : decode cX5_wayOf 183 = .ok (.aload_n 0, 1) := by decide +kernel
theorem dX5_wayOf_184 : decode cX5_wayOf 184 = .ok (.getfield 75, 3) := by decide +kernel
theorem dX5_wayOf_187 : decode cX5_wayOf 187 = .ok (.iload 6, 2) := by decide +kernel
theorem dX5_wayOf_189 : decode cX5_wayOf 189 = .ok (.aload_n 0, 1) := by decide +kernel
theorem dX5_wayOf_190 : decode cX5_wayOf 190 = .ok (.getfield 75, 3) := by decide +kernel
theorem dX5_wayOf_193 : decode cX5_wayOf 193 = .ok (.iload 5, 2) := by decide +kernel
theorem dX5_wayOf_195 : decode cX5_wayOf 195 = .ok (.iaload, 1) := by decide +kernel
theorem dX5_wayOf_196 : decode cX5_wayOf 196 = .ok (.iload 7, 2) := by decide +kernel
theorem dX5_wayOf_198 : decode cX5_wayOf 198 = .ok (.iadd, 1) := by decide +kernel
theorem dX5_wayOf_199 : decode cX5_wayOf 199 = .ok (.iastore, 1) := by decide +kernel
theorem dX5_wayOf_200 : decode cX5_wayOf 200 = .ok (.iinc 6 1, 3) := by decide +kernel
theorem dX5_wayOf_203 : decode cX5_wayOf 203 = .ok (.goto (-112), 3) := by decide +kernel
theorem dX5_wayOf_206 : decode cX5_wayOf 206 = .ok (.iinc 5 1, 3) := by decide +kernel
theorem dX5_wayOf_209 : decode cX5_wayOf 209 = .ok (.goto (-130), 3) := by decide +kernel
theorem dX5_wayOf_212 : decode cX5_wayOf 212 = .ok (.iinc 4 1, 3) := by decide +kernel
theorem dX5_wayOf_215 : decode cX5_wayOf 215 = .ok (.goto (-148), 3) := by decide +kernel
theorem dX5_wayOf_218 : decode cX5_wayOf 218 = .ok (.aload_n 0, 1) := by decide +kernel
theorem dX5_wayOf_219 : decode cX5_wayOf 219 = .ok (.getfield 75, 3) := by decide +kernel
theorem dX5_wayOf_222 : decode cX5_wayOf 222 = .ok (.iload_n 3, 1) := by decide +kernel
theorem dX5_wayOf_223 : decode cX5_wayOf 223 = .ok (.iaload, 1) := by decide +kernel
theorem dX5_wayOf_224 : decode cX5_wayOf 224 = .ok (.ireturn, 1) := by decide +kernel
theorem dX5_way_0 : decode cX5_way 0 = .ok (.aload_n 0, 1) := by decide +kernel
theorem dX5_way_1 : decode cX5_way 1 = .ok (.iconst 0, 1) := by decide +kernel
theorem dX5_way_2 : decode cX5_way 2 = .ok (.putfield 102, 3) := by decide +kernel
theorem dX5_way_5 : decode cX5_way 5 = .ok (.aload_n 0, 1) := by decide +kernel
theorem dX5_way_6 : decode cX5_way 6 = .ok (.iload_n 1, 1) := by decide +kernel
theorem dX5_way_7 : decode cX5_way 7 = .ok (.invokevirtual 123, 3) := by decide +kernel
theorem dX5_way_10 : decode cX5_way 10 = .ok (.ifCond .eq 19, 3) := by decide +kernel
theorem dX5_way_13 : decode cX5_way 13 = .ok (.aload_n 0, 1) := by decide +kernel
theorem dX5_way_14 : decode cX5_way 14 = .ok (.iload_n 2, 1) := by decide +kernel
theorem dX5_way_15 : decode cX5_way 15 = .ok (.invokevirtual 118, 3) := by decide +kernel
theorem dX5_way_18 : decode cX5_way 18 = .ok (.ifCond .eq 11, 3) := by decide +kernel
theorem dX5_way_21 : decode cX5_way 21 = .ok (.aload_n 0, 1) := by decide +kernel
theorem dX5_way_22 : decode cX5_way 22 = .ok (.iload_n 3, 1) := by decide +kernel
theorem dX5_way_23 : decode cX5_way 23 = .ok (.invokevirtual 118, 3) := by decide +kernel
theorem dX5_way_26 : decode cX5_way 26 = .ok (.ifCond .ne 5, 3) := by decide +kernel
theorem dX5_way_29 : decode cX5_way 29 = .ok (.iconst (-1), 1) := by decide +kernel
theorem dX5_way_30 : decode cX5_way 30 = .ok (.ireturn, 1) := by decide +kernel
theorem dX5_way_31 : decode cX5_way 31 = .ok (.aload_n 0, 1) := by decide +kernel
theorem dX5_way_32 : decode cX5_way 32 = .ok (.iload_n 1, 1) := by decide +kernel
theorem dX5_way_33 : decode cX5_way 33 = .ok (.iload_n 2, 1) := by decide +kernel
theorem dX5_way_34 : decode cX5_way 34 = .ok (.iload_n 3, 1) := by decide +kernel
theorem dX5_way_35 : decode cX5_way 35 = .ok (.invokevirtual 126, 3) := by decide +kernel
theorem dX5_way_38 : decode cX5_way 38 = .ok (.istore 4, 2) := by decide +kernel
