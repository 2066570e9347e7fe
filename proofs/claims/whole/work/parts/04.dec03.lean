theorem dX4_lastOnDuty_58 : decode cX4_lastOnDuty 58 = .ok (.goto (-53), 3) := by decide +kernel
theorem dX4_lastOnDuty_61 : decode cX4_lastOnDuty 61 = .ok (.iload_n 3, 1) := by decide +kernel
theorem dX4_lastOnDuty_62 : decode cX4_lastOnDuty 62 = .ok (.ireturn, 1) := by decide +kernel
theorem dX4_findChain_0 : decode cX4_findChain 0 = .ok (.aload_n 0, 1) := by decide +kernel
theorem dX4_findChain_1 : decode cX4_findChain 1 = .ok (.getfield 28, 3) := by decide +kernel
theorem dX4_findChain_4 : decode cX4_findChain 4 = .ok (.aload_n 1, 1) := by decide +kernel
theorem dX4_findChain_5 : decode cX4_findChain 5 = .ok (.getfield 163, 3) := by decide +kernel
theorem dX4_findChain_8 : decode cX4_findChain 8 = .ok (.putfield 235, 3) := by decide +kernel
theorem dX4_findChain_11 : decode cX4_findChain 11 = .ok (.aload_n 0, 1) := by decide +kernel
theorem dX4_findChain_12 : decode cX4_findChain 12 = .ok (.getfield 28, 3) := by decide +kernel
theorem dX4_findChain_15 : decode cX4_findChain 15 = .ok (.aload_n 1, 1) := by decide +kernel
theorem dX4_findChain_16 : decode cX4_findChain 16 = .ok (.getfield 166, 3) := by decide +kernel
theorem dX4_findChain_19 : decode cX4_findChain 19 = .ok (.putfield 236, 3) := by decide +kernel
theorem dX4_findChain_22 : decode cX4_findChain 22 = .ok (.aload_n 0, 1) := by decide +kernel
theorem dX4_findChain_23 : decode cX4_findChain 23 = .ok (.getfield 32, 3) := by decide +kernel
theorem dX4_findChain_26 : decode cX4_findChain 26 = .ok (.iconst 0, 1) := by decide +kernel
theorem dX4_findChain_27 : decode cX4_findChain 27 = .ok (.putfield 239, 3) := by decide +kernel
theorem dX4_findChain_30 : decode cX4_findChain 30 = .ok (.aload_n 0, 1) := by decide +kernel
theorem dX4_findChain_31 : decode cX4_findChain 31 = .ok (.iconst 0, 1) := by decide +kernel
theorem dX4_findChain_32 : decode cX4_findChain 32 = .ok (.iload_n 2, 1) := by decide +kernel
theorem dX4_findChain_33 : decode cX4_findChain 33 = .ok (.iload_n 3, 1) := by decide +kernel
theorem dX4_findChain_34 : decode cX4_findChain 34 = .ok (.invokevirtual 242, 3) := by decide +kernel
theorem dX4_findChain_37 : decode cX4_findChain 37 = .ok (.aload_n 0, 1) := by decide +kernel
theorem dX4_findChain_38 : decode cX4_findChain 38 = .ok (.getfield 32, 3) := by decide +kernel
theorem dX4_findChain_41 : decode cX4_findChain 41 = .ok (.getfield 239, 3) := by decide +kernel
theorem dX4_findChain_44 : decode cX4_findChain 44 = .ok (.ifCond .le 7, 3) := by decide +kernel
theorem dX4_findChain_47 : decode cX4_findChain 47 = .ok (.iconst 1, 1) := by decide +kernel
theorem dX4_findChain_48 : decode cX4_findChain 48 = .ok (.goto 4, 3) := by decide +kernel
theorem dX4_findChain_51 : decode cX4_findChain 51 = .ok (.iconst 0, 1) := by decide +kernel
theorem dX4_findChain_52 : decode cX4_findChain 52 = .ok (.ireturn, 1) := by decide +kernel
theorem dX4_tryRiders_0 : decode cX4_tryRiders 0 = .ok (.iload_n 1, 1) := by decide +kernel
theorem dX4_tryRiders_1 : decode cX4_tryRiders 1 = .ok (.ifCond .lt 8, 3) := by decide +kernel
theorem dX4_tryRiders_4 : decode cX4_tryRiders 4 = .ok (.iload_n 1, 1) := by decide +kernel
theorem dX4_tryRiders_5 : decode cX4_tryRiders 5 = .ok (.iconst 3, 1) := by decide +kernel
theorem dX4_tryRiders_6 : decode cX4_tryRiders 6 = .ok (.if_icmp .lt 4, 3) := by decide +kernel
theorem dX4_tryRiders_9 : decode cX4_tryRiders 9 = .ok (.return_, 1) := by decide +kernel
theorem dX4_tryRiders_10 : decode cX4_tryRiders 10 = .ok (.iconst 0, 1) := by decide +kernel
theorem dX4_tryRiders_11 : decode cX4_tryRiders 11 = .ok (.istore 4, 2) := by decide +kernel
theorem dX4_tryRiders_13 : decode cX4_tryRiders 13 = .ok (.iload 4, 2) := by decide +kernel
theorem dX4_tryRiders_15 : decode cX4_tryRiders 15 = .ok (.aload_n 0, 1) := by decide +kernel
theorem dX4_tryRiders_16 : decode cX4_tryRiders 16 = .ok (.getfield 39, 3) := by decide +kernel
theorem dX4_tryRiders_19 : decode cX4_tryRiders 19 = .ok (.if_icmp .ge 119, 3) := by decide +kernel
theorem dX4_tryRiders_22 : decode cX4_tryRiders 22 = .ok (.aload_n 0, 1) := by decide +kernel
theorem dX4_tryRiders_23 : decode cX4_tryRiders 23 = .ok (.iload 4, 2) := by decide +kernel
theorem dX4_tryRiders_25 : decode cX4_tryRiders 25 = .ok (.invokevirtual 55, 3) := by decide +kernel
theorem dX4_tryRiders_28 : decode cX4_tryRiders 28 = .ok (.astore 5, 2) := by decide +kernel
theorem dX4_tryRiders_30 : decode cX4_tryRiders 30 = .ok (.aload 5, 2) := by decide +kernel
theorem dX4_tryRiders_32 : decode cX4_tryRiders 32 = .ok (.ifnull 100, 3) := by decide +kernel
theorem dX4_tryRiders_35 : decode cX4_tryRiders 35 = .ok (.aload 5, 2) := by decide +kernel
theorem dX4_tryRiders_37 : decode cX4_tryRiders 37 = .ok (.aload_n 0, 1) := by decide +kernel
theorem dX4_tryRiders_38 : decode cX4_tryRiders 38 = .ok (.getfield 28, 3) := by decide +kernel
theorem dX4_tryRiders_41 : decode cX4_tryRiders 41 = .ok (.getfield 235, 3) := by decide +kernel
theorem dX4_tryRiders_44 : decode cX4_tryRiders 44 = .ok (.invokevirtual 121, 3) := by decide +kernel
theorem dX4_tryRiders_47 : decode cX4_tryRiders 47 = .ok (.ifCond .eq 85, 3) := by decide +kernel
theorem dX4_tryRiders_50 : decode cX4_tryRiders 50 = .ok (.aload_n 0, 1) := by decide +kernel
theorem dX4_tryRiders_51 : decode cX4_tryRiders 51 = .ok (.getfield 28, 3) := by decide +kernel
theorem dX4_tryRiders_54 : decode cX4_tryRiders 54 = .ok (.iload 4, 2) := by decide +kernel
theorem dX4_tryRiders_56 : decode cX4_tryRiders 56 = .ok (.iload_n 1, 1) := by decide +kernel
theorem dX4_tryRiders_57 : decode cX4_tryRiders 57 = .ok (.invokevirtual 246, 3) := by decide +kernel
theorem dX4_tryRiders_60 : decode cX4_tryRiders 60 = .ok (.ifCond .eq 6, 3) := by decide +kernel
theorem dX4_tryRiders_63 : decode cX4_tryRiders 63 = .ok (.goto 69, 3) := by decide +kernel
theorem dX4_tryRiders_66 : decode cX4_tryRiders 66 = .ok (.aload_n 0, 1) := by decide +kernel
theorem dX4_tryRiders_67 : decode cX4_tryRiders 67 = .ok (.aload 5, 2) := by decide +kernel
theorem dX4_tryRiders_69 : decode cX4_tryRiders 69 = .ok (.iload_n 2, 1) := by decide +kernel
theorem dX4_tryRiders_70 : decode cX4_tryRiders 70 = .ok (.invokevirtual 207, 3) := by decide +kernel
theorem dX4_tryRiders_73 : decode cX4_tryRiders 73 = .ok (.istore 6, 2) := by decide +kernel
theorem dX4_tryRiders_75 : decode cX4_tryRiders 75 = .ok (.iload 6, 2) := by decide +kernel
theorem dX4_tryRiders_77 : decode cX4_tryRiders 77 = .ok (.iload_n 3, 1) := by decide +kernel
theorem dX4_tryRiders_78 : decode cX4_tryRiders 78 = .ok (.invokestatic 131, 3) := by decide +kernel
theorem dX4_tryRiders_81 : decode cX4_tryRiders 81 = .ok (.istore 7, 2) := by decide +kernel
theorem dX4_tryRiders_83 : decode cX4_tryRiders 83 = .ok (.iload 6, 2) := by decide +kernel
theorem dX4_tryRiders_85 : decode cX4_tryRiders 85 = .ok (.iconst (-1), 1) := by decide +kernel
theorem dX4_tryRiders_86 : decode cX4_tryRiders 86 = .ok (.if_icmp .eq 46, 3) := by decide +kernel
theorem dX4_tryRiders_89 : decode cX4_tryRiders 89 = .ok (.aload_n 0, 1) := by decide +kernel
theorem dX4_tryRiders_90 : decode cX4_tryRiders 90 = .ok (.iload 7, 2) := by decide +kernel
theorem dX4_tryRiders_92 : decode cX4_tryRiders 92 = .ok (.invokevirtual 249, 3) := by decide +kernel
theorem dX4_tryRiders_95 : decode cX4_tryRiders 95 = .ok (.ifCond .ne 37, 3) := by decide +kernel
theorem dX4_tryRiders_98 : decode cX4_tryRiders 98 = .ok (.aload_n 0, 1) := by decide +kernel
theorem dX4_tryRiders_99 : decode cX4_tryRiders 99 = .ok (.iload_n 1, 1) := by decide +kernel
theorem dX4_tryRiders_100 : decode cX4_tryRiders 100 = .ok (.iconst 1, 1) := by decide +kernel
theorem dX4_tryRiders_101 : decode cX4_tryRiders 101 = .ok (.isub, 1) := by decide +kernel
theorem dX4_tryRiders_102 : decode cX4_tryRiders 102 = .ok (.iload 7, 2) := by decide +kernel
theorem dX4_tryRiders_104 : decode cX4_tryRiders 104 = .ok (.invokevirtual 252, 3) := by decide +kernel
theorem dX4_tryRiders_107 : decode cX4_tryRiders 107 = .ok (.ifCond .eq 25, 3) := by decide +kernel
theorem dX4_tryRiders_110 : decode cX4_tryRiders 110 = .ok (.aload_n 0, 1) := by decide +kernel
theorem dX4_tryRiders_111 : decode cX4_tryRiders 111 = .ok (.getfield 28, 3) := by decide +kernel
theorem dX4_tryRiders_114 : decode cX4_tryRiders 114 = .ok (.iload_n 1, 1) := by decide +kernel
theorem dX4_tryRiders_115 : decode cX4_tryRiders 115 = .ok (.iload 4, 2) := by decide +kernel
theorem dX4_tryRiders_117 : decode cX4_tryRiders 117 = .ok (.iload_n 2, 1) := by decide +kernel
theorem dX4_tryRiders_118 : decode cX4_tryRiders 118 = .ok (.iload 7, 2) := by decide +kernel
theorem dX4_tryRiders_120 : decode cX4_tryRiders 120 = .ok (.invokevirtual 255, 3) := by decide +kernel
theorem dX4_tryRiders_123 : decode cX4_tryRiders 123 = .ok (.aload_n 0, 1) := by decide +kernel
theorem dX4_tryRiders_124 : decode cX4_tryRiders 124 = .ok (.iload_n 1, 1) := by decide +kernel
theorem dX4_tryRiders_125 : decode cX4_tryRiders 125 = .ok (.aload 5, 2) := by decide +kernel
theorem dX4_tryRiders_127 : decode cX4_tryRiders 127 = .ok (.iload 7, 2) := by decide +kernel
theorem dX4_tryRiders_129 : decode cX4_tryRiders 129 = .ok (.invokevirtual 259, 3) := by decide +kernel
theorem dX4_tryRiders_132 : decode cX4_tryRiders 132 = .ok (.iinc 4 1, 3) := by decide +kernel
theorem dX4_tryRiders_135 : decode cX4_tryRiders 135 = .ok (.goto (-122), 3) := by decide +kernel
theorem dX4_tryRiders_138 : decode cX4_tryRiders 138 = .ok (.return_, 1) := by decide +kernel
theorem dX4_isTooLate_0 : decode cX4_isTooLate 0 = .ok (.aload_n 0, 1) := by decide +kernel
theorem dX4_isTooLate_1 : decode cX4_isTooLate 1 = .ok (.getfield 32, 3) := by decide +kernel
theorem dX4_isTooLate_4 : decode cX4_isTooLate 4 = .ok (.getfield 239, 3) := by decide +kernel
theorem dX4_isTooLate_7 : decode cX4_isTooLate 7 = .ok (.ifCond .le 18, 3) := by decide +kernel
theorem dX4_isTooLate_10 : decode cX4_isTooLate 10 = .ok (.iload_n 1, 1) := by decide +kernel
theorem dX4_isTooLate_11 : decode cX4_isTooLate 11 = .ok (.aload_n 0, 1) := by decide +kernel
theorem dX4_isTooLate_12 : decode cX4_isTooLate 12 = .ok (.getfield 32, 3) := by decide +kernel
theorem dX4_isTooLate_15 : decode cX4_isTooLate 15 = .ok (.invokevirtual 154, 3) := by decide +kernel
theorem dX4_isTooLate_18 : decode cX4_isTooLate 18 = .ok (.if_icmp .lt 7, 3) := by decide +kernel
theorem dX4_isTooLate_21 : decode cX4_isTooLate 21 = .ok (.iconst 1, 1) := by decide +kernel
theorem dX4_isTooLate_22 : decode cX4_isTooLate 22 = .ok (.goto 4, 3) := by decide +kernel
theorem dX4_isTooLate_25 : decode cX4_isTooLate 25 = .ok (.iconst 0, 1) := by decide +kernel
theorem dX4_isTooLate_26 : decode cX4_isTooLate 26 = .ok (.ireturn, 1) := by decide +kernel
theorem dX4_waitsUntil_0 : decode cX4_waitsUntil 0 = .ok (.iload_n 1, 1) := by decide +kernel
theorem dX4_waitsUntil_1 : decode cX4_waitsUntil 1 = .ok (.ifCond .lt 8, 3) := by decide +kernel
theorem dX4_waitsUntil_4 : decode cX4_waitsUntil 4 = .ok (.iload_n 1, 1) := by decide +kernel
theorem dX4_waitsUntil_5 : decode cX4_waitsUntil 5 = .ok (.iconst 3, 1) := by decide +kernel
theorem dX4_waitsUntil_6 : decode cX4_waitsUntil 6 = .ok (.if_icmp .lt 5, 3) := by decide +kernel
theorem dX4_waitsUntil_9 : decode cX4_waitsUntil 9 = .ok (.iconst 1, 1) := by decide +kernel
theorem dX4_waitsUntil_10 : decode cX4_waitsUntil 10 = .ok (.ireturn, 1) := by decide +kernel
theorem dX4_waitsUntil_11 : decode cX4_waitsUntil 11 = .ok (.aload_n 0, 1) := by decide +kernel
theorem dX4_waitsUntil_12 : decode cX4_waitsUntil 12 = .ok (.aload_n 0, 1) := by decide +kernel
theorem dX4_waitsUntil_13 : decode cX4_waitsUntil 13 = .ok (.getfield 28, 3) := by decide +kernel
theorem dX4_waitsUntil_16 : decode cX4_waitsUntil 16 = .ok (.getfield 263, 3) := by decide +kernel
theorem dX4_waitsUntil_19 : decode cX4_waitsUntil 19 = .ok (.iload_n 1, 1) := by decide +kernel
theorem dX4_waitsUntil_20 : decode cX4_waitsUntil 20 = .ok (.iaload, 1) := by decide +kernel
theorem dX4_waitsUntil_21 : decode cX4_waitsUntil 21 = .ok (.invokevirtual 55, 3) := by decide +kernel
theorem dX4_waitsUntil_24 : decode cX4_waitsUntil 24 = .ok (.astore_n 3, 1) := by decide +kernel
theorem dX4_waitsUntil_25 : decode cX4_waitsUntil 25 = .ok (.aload_n 3, 1) := by decide +kernel
theorem dX4_waitsUntil_26 : decode cX4_waitsUntil 26 = .ok (.ifnull 15, 3) := by decide +kernel
theorem dX4_waitsUntil_29 : decode cX4_waitsUntil 29 = .ok (.iload_n 2, 1) := by decide +kernel
theorem dX4_waitsUntil_30 : decode cX4_waitsUntil 30 = .ok (.aload_n 3, 1) := by decide +kernel
theorem dX4_waitsUntil_31 : decode cX4_waitsUntil 31 = .ok (.getfield 211, 3) := by decide +kernel
theorem dX4_waitsUntil_34 : decode cX4_waitsUntil 34 = .ok (.if_icmp .gt 7, 3) := by decide +kernel
theorem dX4_waitsUntil_37 : decode cX4_waitsUntil 37 = .ok (.iconst 1, 1) := by decide +kernel
theorem dX4_waitsUntil_38 : decode cX4_waitsUntil 38 = .ok (.goto 4, 3) := by decide +kernel
theorem dX4_waitsUntil_41 : decode cX4_waitsUntil 41 = .ok (.iconst 0, 1) := by decide +kernel
theorem dX4_waitsUntil_42 : decode cX4_waitsUntil 42 = .ok (.ireturn, 1) := by decide +kernel
theorem dX4_tryEnds_0 : decode cX4_tryEnds 0 = .ok (.aload_n 0, 1) := by decide +kernel
theorem dX4_tryEnds_1 : decode cX4_tryEnds 1 = .ok (.iload_n 1, 1) := by decide +kernel
theorem dX4_tryEnds_2 : decode cX4_tryEnds 2 = .ok (.aload_n 2, 1) := by decide +kernel
theorem dX4_tryEnds_3 : decode cX4_tryEnds 3 = .ok (.iload_n 3, 1) := by decide +kernel
theorem dX4_tryEnds_4 : decode cX4_tryEnds 4 = .ok (.aload_n 0, 1) := by decide +kernel
theorem dX4_tryEnds_5 : decode cX4_tryEnds 5 = .ok (.getfield 28, 3) := by decide +kernel
theorem dX4_tryEnds_8 : decode cX4_tryEnds 8 = .ok (.getfield 236, 3) := by decide +kernel
theorem dX4_tryEnds_11 : decode cX4_tryEnds 11 = .ok (.invokevirtual 265, 3) := by decide +kernel
theorem dX4_tryEnds_14 : decode cX4_tryEnds 14 = .ok (.iload_n 1, 1) := by decide +kernel
theorem dX4_tryEnds_15 : decode cX4_tryEnds 15 = .ok (.iconst 1, 1) := by decide +kernel
theorem dX4_tryEnds_16 : decode cX4_tryEnds 16 = .ok (.iadd, 1) := by decide +kernel
theorem dX4_tryEnds_17 : decode cX4_tryEnds 17 = .ok (.iconst 3, 1) := by decide +kernel
theorem dX4_tryEnds_18 : decode cX4_tryEnds 18 = .ok (.if_icmp .lt 4, 3) := by decide +kernel
theorem dX4_tryEnds_21 : decode cX4_tryEnds 21 = .ok (.return_, 1) := by decide +kernel
theorem dX4_tryEnds_22 : decode cX4_tryEnds 22 = .ok (.iconst 0, 1) := by decide +kernel
theorem dX4_tryEnds_23 : decode cX4_tryEnds 23 = .ok (.istore 4, 2) := by decide +kernel
theorem dX4_tryEnds_25 : decode cX4_tryEnds 25 = .ok (.iload 4, 2) := by decide +kernel
theorem dX4_tryEnds_27 : decode cX4_tryEnds 27 = .ok (.aload_n 0, 1) := by decide +kernel
theorem dX4_tryEnds_28 : decode cX4_tryEnds 28 = .ok (.getfield 35, 3) := by decide +kernel
theorem dX4_tryEnds_31 : decode cX4_tryEnds 31 = .ok (.if_icmp .ge 30, 3) := by decide +kernel
theorem dX4_tryEnds_34 : decode cX4_tryEnds 34 = .ok (.iload 4, 2) := by decide +kernel
theorem dX4_tryEnds_36 : decode cX4_tryEnds 36 = .ok (.aload_n 0, 1) := by decide +kernel
theorem dX4_tryEnds_37 : decode cX4_tryEnds 37 = .ok (.getfield 28, 3) := by decide +kernel
theorem dX4_tryEnds_40 : decode cX4_tryEnds 40 = .ok (.getfield 236, 3) := by decide +kernel
theorem dX4_tryEnds_43 : decode cX4_tryEnds 43 = .ok (.if_icmp .eq 12, 3) := by decide +kernel
theorem dX4_tryEnds_46 : decode cX4_tryEnds 46 = .ok (.aload_n 0, 1) := by decide +kernel
theorem dX4_tryEnds_47 : decode cX4_tryEnds 47 = .ok (.iload_n 1, 1) := by decide +kernel
theorem dX4_tryEnds_48 : decode cX4_tryEnds 48 = .ok (.aload_n 2, 1) := by decide +kernel
theorem dX4_tryEnds_49 : decode cX4_tryEnds 49 = .ok (.iload_n 3, 1) := by decide +kernel
theorem dX4_tryEnds_50 : decode cX4_tryEnds 50 = .ok (.iload 4, 2) := by decide +kernel
theorem dX4_tryEnds_52 : decode cX4_tryEnds 52 = .ok (.invokevirtual 265, 3) := by decide +kernel
theorem dX4_tryEnds_55 : decode cX4_tryEnds 55 = .ok (.iinc 4 1, 3) := by decide +kernel
theorem dX4_tryEnds_58 : decode cX4_tryEnds 58 = .ok (.goto (-33), 3) := by decide +kernel
theorem dX4_tryEnds_61 : decode cX4_tryEnds 61 = .ok (.return_, 1) := by decide +kernel
theorem dX4_tryEnd_0 : decode cX4_tryEnd 0 = .ok (.aload_n 0, 1) := by decide +kernel
theorem dX4_tryEnd_1 : decode cX4_tryEnd 1 = .ok (.aload_n 2, 1) := by decide +kernel
theorem dX4_tryEnd_2 : decode cX4_tryEnd 2 = .ok (.aload_n 0, 1) := by decide +kernel
theorem dX4_tryEnd_3 : decode cX4_tryEnd 3 = .ok (.getfield 28, 3) := by decide +kernel
theorem dX4_tryEnd_6 : decode cX4_tryEnd 6 = .ok (.iload_n 1, 1) := by decide +kernel
theorem dX4_tryEnd_7 : decode cX4_tryEnd 7 = .ok (.invokevirtual 269, 3) := by decide +kernel
theorem dX4_tryEnd_10 : decode cX4_tryEnd 10 = .ok (.iload 4, 2) := by decide +kernel
theorem dX4_tryEnd_12 : decode cX4_tryEnd 12 = .ok (.invokevirtual 80, 3) := by decide +kernel
theorem dX4_tryEnd_15 : decode cX4_tryEnd 15 = .ok (.istore 5, 2) := by decide +kernel
theorem dX4_tryEnd_17 : decode cX4_tryEnd 17 = .ok (.iload 5, 2) := by decide +kernel
theorem dX4_tryEnd_19 : decode cX4_tryEnd 19 = .ok (.iconst (-1), 1) := by decide +kernel
theorem dX4_tryEnd_20 : decode cX4_tryEnd 20 = .ok (.if_icmp .eq 29, 3) := by decide +kernel
theorem dX4_tryEnd_23 : decode cX4_tryEnd 23 = .ok (.iload_n 3, 1) := by decide +kernel
theorem dX4_tryEnd_24 : decode cX4_tryEnd 24 = .ok (.iload 5, 2) := by decide +kernel
theorem dX4_tryEnd_26 : decode cX4_tryEnd 26 = .ok (.iadd, 1) := by decide +kernel
theorem dX4_tryEnd_27 : decode cX4_tryEnd 27 = .ok (.aload_n 2, 1) := by decide +kernel
theorem dX4_tryEnd_28 : decode cX4_tryEnd 28 = .ok (.getfield 211, 3) := by decide +kernel
theorem dX4_tryEnd_31 : decode cX4_tryEnd 31 = .ok (.if_icmp .gt 18, 3) := by decide +kernel
theorem dX4_tryEnd_34 : decode cX4_tryEnd 34 = .ok (.aload_n 0, 1) := by decide +kernel
theorem dX4_tryEnd_35 : decode cX4_tryEnd 35 = .ok (.getfield 28, 3) := by decide +kernel
theorem dX4_tryEnd_38 : decode cX4_tryEnd 38 = .ok (.iload 4, 2) := by decide +kernel
theorem dX4_tryEnd_40 : decode cX4_tryEnd 40 = .ok (.iload_n 1, 1) := by decide +kernel
theorem dX4_tryEnd_41 : decode cX4_tryEnd 41 = .ok (.iconst 1, 1) := by decide +kernel
theorem dX4_tryEnd_42 : decode cX4_tryEnd 42 = .ok (.iadd, 1) := by decide +kernel
theorem dX4_tryEnd_43 : decode cX4_tryEnd 43 = .ok (.invokevirtual 272, 3) := by decide +kernel
theorem dX4_tryEnd_46 : decode cX4_tryEnd 46 = .ok (.ifCond .eq 4, 3) := by decide +kernel
theorem dX4_tryEnd_49 : decode cX4_tryEnd 49 = .ok (.return_, 1) := by decide +kernel
theorem dX4_tryEnd_50 : decode cX4_tryEnd 50 = .ok (.aload_n 0, 1) := by decide +kernel
theorem dX4_tryEnd_51 : decode cX4_tryEnd 51 = .ok (.getfield 28, 3) := by decide +kernel
theorem dX4_tryEnd_54 : decode cX4_tryEnd 54 = .ok (.iload_n 1, 1) := by decide +kernel
theorem dX4_tryEnd_55 : decode cX4_tryEnd 55 = .ok (.iload 4, 2) := by decide +kernel
theorem dX4_tryEnd_57 : decode cX4_tryEnd 57 = .ok (.iload_n 3, 1) := by decide +kernel
theorem dX4_tryEnd_58 : decode cX4_tryEnd 58 = .ok (.iload 5, 2) := by decide +kernel
theorem dX4_tryEnd_60 : decode cX4_tryEnd 60 = .ok (.iadd, 1) := by decide +kernel
theorem dX4_tryEnd_61 : decode cX4_tryEnd 61 = .ok (.invokevirtual 275, 3) := by decide +kernel
theorem dX4_tryEnd_64 : decode cX4_tryEnd 64 = .ok (.iload 4, 2) := by decide +kernel
theorem dX4_tryEnd_66 : decode cX4_tryEnd 66 = .ok (.aload_n 0, 1) := by decide +kernel
theorem dX4_tryEnd_67 : decode cX4_tryEnd 67 = .ok (.getfield 28, 3) := by decide +kernel
theorem dX4_tryEnd_70 : decode cX4_tryEnd 70 = .ok (.getfield 236, 3) := by decide +kernel
theorem dX4_tryEnd_73 : decode cX4_tryEnd 73 = .ok (.if_icmp .ne 10, 3) := by decide +kernel
theorem dX4_tryEnd_76 : decode cX4_tryEnd 76 = .ok (.aload_n 0, 1) := by decide +kernel
theorem dX4_tryEnd_77 : decode cX4_tryEnd 77 = .ok (.invokevirtual 278, 3) := by decide +kernel
theorem dX4_tryEnd_80 : decode cX4_tryEnd 80 = .ok (.goto 16, 3) := by decide +kernel
theorem dX4_tryEnd_83 : decode cX4_tryEnd 83 = .ok (.aload_n 0, 1) := by decide +kernel
theorem dX4_tryEnd_84 : decode cX4_tryEnd 84 = .ok (.iload_n 1, 1) := by decide +kernel
theorem dX4_tryEnd_85 : decode cX4_tryEnd 85 = .ok (.iconst 1, 1) := by decide +kernel
theorem dX4_tryEnd_86 : decode cX4_tryEnd 86 = .ok (.iadd, 1) := by decide +kernel
theorem dX4_tryEnd_87 : decode cX4_tryEnd 87 = .ok (.iload 4, 2) := by decide +kernel
theorem dX4_tryEnd_89 : decode cX4_tryEnd 89 = .ok (.iload_n 3, 1) := by decide +kernel
theorem dX4_tryEnd_90 : decode cX4_tryEnd 90 = .ok (.iload 5, 2) := by decide +kernel
theorem dX4_tryEnd_92 : decode cX4_tryEnd 92 = .ok (.iadd, 1) := by decide +kernel
theorem dX4_tryEnd_93 : decode cX4_tryEnd 93 = .ok (.invokevirtual 242, 3) := by decide +kernel
theorem dX4_tryEnd_96 : decode cX4_tryEnd 96 = .ok (.return_, 1) := by decide +kernel
theorem dX4_keepIfBetter_0 : decode cX4_keepIfBetter 0 = .ok (.aload_n 0, 1) := by decide +kernel
theorem dX4_keepIfBetter_1 : decode cX4_keepIfBetter 1 = .ok (.getfield 28, 3) := by decide +kernel
theorem dX4_keepIfBetter_4 : decode cX4_keepIfBetter 4 = .ok (.invokevirtual 154, 3) := by decide +kernel
theorem dX4_keepIfBetter_7 : decode cX4_keepIfBetter 7 = .ok (.istore_n 1, 1) := by decide +kernel
theorem dX4_keepIfBetter_8 : decode cX4_keepIfBetter 8 = .ok (.aload_n 0, 1) := by decide +kernel
theorem dX4_keepIfBetter_9 : decode cX4_keepIfBetter 9 = .ok (.getfield 32, 3) := by decide +kernel
theorem dX4_keepIfBetter_12 : decode cX4_keepIfBetter 12 = .ok (.invokevirtual 154, 3) := by decide +kernel
theorem dX4_keepIfBetter_15 : decode cX4_keepIfBetter 15 = .ok (.istore_n 2, 1) := by decide +kernel
theorem dX4_keepIfBetter_16 : decode cX4_keepIfBetter 16 = .ok (.iload_n 2, 1) := by decide +kernel
theorem dX4_keepIfBetter_17 : decode cX4_keepIfBetter 17 = .ok (.iconst (-1), 1) := by decide +kernel
theorem dX4_keepIfBetter_18 : decode cX4_keepIfBetter 18 = .ok (.if_icmp .eq 30, 3) := by decide +kernel
theorem dX4_keepIfBetter_21 : decode cX4_keepIfBetter 21 = .ok (.iload_n 1, 1) := by decide +kernel
theorem dX4_keepIfBetter_22 : decode cX4_keepIfBetter 22 = .ok (.iload_n 2, 1) := by decide +kernel
theorem dX4_keepIfBetter_23 : decode cX4_keepIfBetter 23 = .ok (.if_icmp .lt 25, 3) := by decide +kernel
theorem dX4_keepIfBetter_26 : decode cX4_keepIfBetter 26 = .ok (.iload_n 1, 1) := by decide +kernel
theorem dX4_keepIfBetter_27 : decode cX4_keepIfBetter 27 = .ok (.iload_n 2, 1) := by decide +kernel
theorem dX4_keepIfBetter_28 : decode cX4_keepIfBetter 28 = .ok (.if_icmp .ne 31, 3) := by decide +kernel
theorem dX4_keepIfBetter_31 : decode cX4_keepIfBetter 31 = .ok (.aload_n 0, 1) := by decide +kernel
theorem dX4_keepIfBetter_32 : decode cX4_keepIfBetter 32 = .ok (.getfield 28, 3) := by decide +kernel
theorem dX4_keepIfBetter_35 : decode cX4_keepIfBetter 35 = .ok (.getfield 239, 3) := by decide +kernel
theorem dX4_keepIfBetter_38 : decode cX4_keepIfBetter 38 = .ok (.aload_n 0, 1) := by decide +kernel
theorem dX4_keepIfBetter_39 : decode cX4_keepIfBetter 39 = .ok (.getfield 32, 3) := by decide +kernel
theorem dX4_keepIfBetter_42 : decode cX4_keepIfBetter 42 = .ok (.getfield 239, 3) := by decide +kernel
theorem dX4_keepIfBetter_45 : decode cX4_keepIfBetter 45 = .ok (.if_icmp .ge 14, 3) := by decide +kernel
theorem dX4_keepIfBetter_48 : decode cX4_keepIfBetter 48 = .ok (.aload_n 0, 1) := by decide +kernel
theorem dX4_keepIfBetter_49 : decode cX4_keepIfBetter 49 = .ok (.getfield 32, 3) := by decide +kernel
theorem dX4_keepIfBetter_52 : decode cX4_keepIfBetter 52 = .ok (.aload_n 0, 1) := by decide +kernel
theorem dX4_keepIfBetter_53 : decode cX4_keepIfBetter 53 = .ok (.getfield 28, 3) := by decide +kernel
theorem dX4_keepIfBetter_56 : decode cX4_keepIfBetter 56 = .ok (.invokevirtual 281, 3) := by decide +kernel
theorem dX4_keepIfBetter_59 : decode cX4_keepIfBetter 59 = .ok (.return_, 1) := by decide +kernel
theorem dX4_rideChosen_0 : decode cX4_rideChosen 0 = .ok (.iconst 0, 1) := by decide +kernel
theorem dX4_rideChosen_1 : decode cX4_rideChosen 1 = .ok (.istore_n 2, 1) := by decide +kernel
theorem dX4_rideChosen_2 : decode cX4_rideChosen 2 = .ok (.iload_n 2, 1) := by decide +kernel
theorem dX4_rideChosen_3 : decode cX4_rideChosen 3 = .ok (.aload_n 0, 1) := by decide +kernel
theorem dX4_rideChosen_4 : decode cX4_rideChosen 4 = .ok (.getfield 32, 3) := by decide +kernel
theorem dX4_rideChosen_7 : decode cX4_rideChosen 7 = .ok (.getfield 239, 3) := by decide +kernel
theorem dX4_rideChosen_10 : decode cX4_rideChosen 10 = .ok (.if_icmp .ge 158, 3) := by decide +kernel
theorem dX4_rideChosen_13 : decode cX4_rideChosen 13 = .ok (.iload_n 2, 1) := by decide +kernel
theorem dX4_rideChosen_14 : decode cX4_rideChosen 14 = .ok (.iconst 3, 1) := by decide +kernel
theorem dX4_rideChosen_15 : decode cX4_rideChosen 15 = .ok (.if_icmp .ge 153, 3) := by decide +kernel
theorem dX4_rideChosen_18 : decode cX4_rideChosen 18 = .ok (.aload_n 0, 1) := by decide +kernel
theorem dX4_rideChosen_19 : decode cX4_rideChosen 19 = .ok (.aload_n 0, 1) := by decide +kernel
theorem dX4_rideChosen_20 : decode cX4_rideChosen 20 = .ok (.getfield 32, 3) := by decide +kernel
theorem dX4_rideChosen_23 : decode cX4_rideChosen 23 = .ok (.getfield 263, 3) := by decide +kernel
theorem dX4_rideChosen_26 : decode cX4_rideChosen 26 = .ok (.iload_n 2, 1) := by decide +kernel
theorem dX4_rideChosen_27 : decode cX4_rideChosen 27 = .ok (.iaload, 1) := by decide +kernel
theorem dX4_rideChosen_28 : decode cX4_rideChosen 28 = .ok (.invokevirtual 55, 3) := by decide +kernel
theorem dX4_rideChosen_31 : decode cX4_rideChosen 31 = .ok (.astore_n 3, 1) := by decide +kernel
theorem dX4_rideChosen_32 : decode cX4_rideChosen 32 = .ok (.aload_n 3, 1) := by decide +kernel
theorem dX4_rideChosen_33 : decode cX4_rideChosen 33 = .ok (.ifnonnull 6, 3) := by decide +kernel
theorem dX4_rideChosen_36 : decode cX4_rideChosen 36 = .ok (.goto 126, 3) := by decide +kernel
theorem dX4_rideChosen_39 : decode cX4_rideChosen 39 = .ok (.aload_n 0, 1) := by decide +kernel
theorem dX4_rideChosen_40 : decode cX4_rideChosen 40 = .ok (.getfield 32, 3) := by decide +kernel
theorem dX4_rideChosen_43 : decode cX4_rideChosen 43 = .ok (.getfield 285, 3) := by decide +kernel
theorem dX4_rideChosen_46 : decode cX4_rideChosen 46 = .ok (.iload_n 2, 1) := by decide +kernel
theorem dX4_rideChosen_47 : decode cX4_rideChosen 47 = .ok (.iaload, 1) := by decide +kernel
theorem dX4_rideChosen_48 : decode cX4_rideChosen 48 = .ok (.istore 4, 2) := by decide +kernel
theorem dX4_rideChosen_50 : decode cX4_rideChosen 50 = .ok (.aload_n 0, 1) := by decide +kernel
theorem dX4_rideChosen_51 : decode cX4_rideChosen 51 = .ok (.getfield 32, 3) := by decide +kernel
theorem dX4_rideChosen_54 : decode cX4_rideChosen 54 = .ok (.getfield 287, 3) := by decide +kernel
theorem dX4_rideChosen_57 : decode cX4_rideChosen 57 = .ok (.iload_n 2, 1) := by decide +kernel
theorem dX4_rideChosen_58 : decode cX4_rideChosen 58 = .ok (.iaload, 1) := by decide +kernel
theorem dX4_rideChosen_59 : decode cX4_rideChosen 59 = .ok (.istore 5, 2) := by decide +kernel
theorem dX4_rideChosen_61 : decode cX4_rideChosen 61 = .ok (.aload_n 0, 1) := by decide +kernel
theorem dX4_rideChosen_62 : decode cX4_rideChosen 62 = .ok (.getfield 32, 3) := by decide +kernel
theorem dX4_rideChosen_65 : decode cX4_rideChosen 65 = .ok (.getfield 289, 3) := by decide +kernel
theorem dX4_rideChosen_68 : decode cX4_rideChosen 68 = .ok (.iload_n 2, 1) := by decide +kernel
theorem dX4_rideChosen_69 : decode cX4_rideChosen 69 = .ok (.iaload, 1) := by decide +kernel
theorem dX4_rideChosen_70 : decode cX4_rideChosen 70 = .ok (.istore 6, 2) := by decide +kernel
theorem dX4_rideChosen_72 : decode cX4_rideChosen 72 = .ok (.aload_n 1, 1) := by decide +kernel
theorem dX4_rideChosen_73 : decode cX4_rideChosen 73 = .ok (.new 183, 3) := by decide +kernel
theorem dX4_rideChosen_76 : decode cX4_rideChosen 76 = .ok (.dup, 1) := by decide +kernel
theorem dX4_rideChosen_77 : decode cX4_rideChosen 77 = .ok (.aload_n 0, 1) := by decide +kernel
theorem dX4_rideChosen_78 : decode cX4_rideChosen 78 = .ok (.getfield 32, 3) := by decide +kernel
theorem dX4_rideChosen_81 : decode cX4_rideChosen 81 = .ok (.getfield 263, 3) := by decide +kernel
theorem dX4_rideChosen_84 : decode cX4_rideChosen 84 = .ok (.iload_n 2, 1) := by decide +kernel
theorem dX4_rideChosen_85 : decode cX4_rideChosen 85 = .ok (.iaload, 1) := by decide +kernel
theorem dX4_rideChosen_86 : decode cX4_rideChosen 86 = .ok (.aload_n 0, 1) := by decide +kernel
theorem dX4_rideChosen_87 : decode cX4_rideChosen 87 = .ok (.getfield 32, 3) := by decide +kernel
theorem dX4_rideChosen_90 : decode cX4_rideChosen 90 = .ok (.getfield 292, 3) := by decide +kernel
theorem dX4_rideChosen_93 : decode cX4_rideChosen 93 = .ok (.iload_n 2, 1) := by decide +kernel
theorem dX4_rideChosen_94 : decode cX4_rideChosen 94 = .ok (.iaload, 1) := by decide +kernel
theorem dX4_rideChosen_95 : decode cX4_rideChosen 95 = .ok (.iload 6, 2) := by decide +kernel
theorem dX4_rideChosen_97 : decode cX4_rideChosen 97 = .ok (.iload 4, 2) := by decide +kernel
theorem dX4_rideChosen_99 : decode cX4_rideChosen 99 = .ok (.iload 5, 2) := by decide +kernel
theorem dX4_rideChosen_101 : decode cX4_rideChosen 101 = .ok (.aload_n 3, 1) := by decide +kernel
theorem dX4_rideChosen_102 : decode cX4_rideChosen 102 = .ok (.getfield 94, 3) := by decide +kernel
theorem dX4_rideChosen_105 : decode cX4_rideChosen 105 = .ok (.aload_n 3, 1) := by decide +kernel
theorem dX4_rideChosen_106 : decode cX4_rideChosen 106 = .ok (.getfield 101, 3) := by decide +kernel
theorem dX4_rideChosen_109 : decode cX4_rideChosen 109 = .ok (.invokespecial 295, 3) := by decide +kernel
theorem dX4_rideChosen_112 : decode cX4_rideChosen 112 = .ok (.invokevirtual 298, 3) := by decide +kernel
theorem dX4_rideChosen_115 : decode cX4_rideChosen 115 = .ok (.aload_n 3, 1) := by decide +kernel
theorem dX4_rideChosen_116 : decode cX4_rideChosen 116 = .ok (.iload 6, 2) := by decide +kernel
theorem dX4_rideChosen_118 : decode cX4_rideChosen 118 = .ok (.putfield 94, 3) := by decide +kernel
theorem dX4_rideChosen_121 : decode cX4_rideChosen 121 = .ok (.aload_n 3, 1) := by decide +kernel
theorem dX4_rideChosen_122 : decode cX4_rideChosen 122 = .ok (.aload_n 0, 1) := by decide +kernel
theorem dX4_rideChosen_123 : decode cX4_rideChosen 123 = .ok (.getfield 32, 3) := by decide +kernel
theorem dX4_rideChosen_126 : decode cX4_rideChosen 126 = .ok (.iload_n 2, 1) := by decide +kernel
theorem dX4_rideChosen_127 : decode cX4_rideChosen 127 = .ok (.invokevirtual 302, 3) := by decide +kernel
theorem dX4_rideChosen_130 : decode cX4_rideChosen 130 = .ok (.aload_n 0, 1) := by decide +kernel
theorem dX4_rideChosen_131 : decode cX4_rideChosen 131 = .ok (.getfield 45, 3) := by decide +kernel
theorem dX4_rideChosen_134 : decode cX4_rideChosen 134 = .ok (.iadd, 1) := by decide +kernel
theorem dX4_rideChosen_135 : decode cX4_rideChosen 135 = .ok (.putfield 101, 3) := by decide +kernel
theorem dX4_rideChosen_138 : decode cX4_rideChosen 138 = .ok (.aload_n 3, 1) := by decide +kernel
theorem dX4_rideChosen_139 : decode cX4_rideChosen 139 = .ok (.dup, 1) := by decide +kernel
theorem dX4_rideChosen_140 : decode cX4_rideChosen 140 = .ok (.getfield 104, 3) := by decide +kernel
theorem dX4_rideChosen_143 : decode cX4_rideChosen 143 = .ok (.iconst 1, 1) := by decide +kernel
theorem dX4_rideChosen_144 : decode cX4_rideChosen 144 = .ok (.iadd, 1) := by decide +kernel
theorem dX4_rideChosen_145 : decode cX4_rideChosen 145 = .ok (.putfield 104, 3) := by decide +kernel
theorem dX4_rideChosen_148 : decode cX4_rideChosen 148 = .ok (.aload_n 3, 1) := by decide +kernel
theorem dX4_rideChosen_149 : decode cX4_rideChosen 149 = .ok (.dup, 1) := by decide +kernel
theorem dX4_rideChosen_150 : decode cX4_rideChosen 150 = .ok (.getfield 107, 3) := by decide +kernel
theorem dX4_rideChosen_153 : decode cX4_rideChosen 153 = .ok (.iload 5, 2) := by decide +kernel
theorem dX4_rideChosen_155 : decode cX4_rideChosen 155 = .ok (.iload 4, 2) := by decide +kernel
theorem dX4_rideChosen_157 : decode cX4_rideChosen 157 = .ok (.isub, 1) := by decide +kernel
theorem dX4_rideChosen_158 : decode cX4_rideChosen 158 = .ok (.iadd, 1) := by decide +kernel
theorem dX4_rideChosen_159 : decode cX4_rideChosen 159 = .ok (.putfield 107, 3) := by decide +kernel
theorem dX4_rideChosen_162 : decode cX4_rideChosen 162 = .ok (.iinc 2 1, 3) := by decide +kernel
theorem dX4_rideChosen_165 : decode cX4_rideChosen 165 = .ok (.goto (-163), 3) := by decide +kernel
theorem dX4_rideChosen_168 : decode cX4_rideChosen 168 = .ok (.return_, 1) := by decide +kernel
theorem dX4_mayFail_0 : decode cX4_mayFail 0 = .ok (.aload_n 0, 1) := by decide +kernel
theorem dX4_mayFail_1 : decode cX4_mayFail 1 = .ok (.iload_n 1, 1) := by decide +kernel
theorem dX4_mayFail_2 : decode cX4_mayFail 2 = .ok (.invokevirtual 178, 3) := by decide +kernel
theorem dX4_mayFail_5 : decode cX4_mayFail 5 = .ok (.astore_n 3, 1) := by decide +kernel
theorem dX4_mayFail_6 : decode cX4_mayFail 6 = .ok (.aload_n 3, 1) := by decide +kernel
theorem dX4_mayFail_7 : decode cX4_mayFail 7 = .ok (.ifnull 19, 3) := by decide +kernel
theorem dX4_mayFail_10 : decode cX4_mayFail 10 = .ok (.iload_n 2, 1) := by decide +kernel
theorem dX4_mayFail_11 : decode cX4_mayFail 11 = .ok (.aload_n 3, 1) := by decide +kernel
theorem dX4_mayFail_12 : decode cX4_mayFail 12 = .ok (.getfield 189, 3) := by decide +kernel
theorem dX4_mayFail_15 : decode cX4_mayFail 15 = .ok (.if_icmp .lt 11, 3) := by decide +kernel
theorem dX4_mayFail_18 : decode cX4_mayFail 18 = .ok (.iload_n 2, 1) := by decide +kernel
theorem dX4_mayFail_19 : decode cX4_mayFail 19 = .ok (.aload_n 3, 1) := by decide +kernel
theorem dX4_mayFail_20 : decode cX4_mayFail 20 = .ok (.getfield 192, 3) := by decide +kernel
theorem dX4_mayFail_23 : decode cX4_mayFail 23 = .ok (.if_icmp .le 5, 3) := by decide +kernel
theorem dX4_mayFail_26 : decode cX4_mayFail 26 = .ok (.iconst 0, 1) := by decide +kernel
theorem dX4_mayFail_27 : decode cX4_mayFail 27 = .ok (.ireturn, 1) := by decide +kernel
theorem dX4_mayFail_28 : decode cX4_mayFail 28 = .ok (.iload_n 1, 1) := by decide +kernel
theorem dX4_mayFail_29 : decode cX4_mayFail 29 = .ok (.istore 4, 2) := by decide +kernel
theorem dX4_mayFail_31 : decode cX4_mayFail 31 = .ok (.iload 4, 2) := by decide +kernel
theorem dX4_mayFail_33 : decode cX4_mayFail 33 = .ok (.aload_n 0, 1) := by decide +kernel
theorem dX4_mayFail_34 : decode cX4_mayFail 34 = .ok (.getfield 175, 3) := by decide +kernel
theorem dX4_mayFail_37 : decode cX4_mayFail 37 = .ok (.if_icmp .ge 32, 3) := by decide +kernel
theorem dX4_mayFail_40 : decode cX4_mayFail 40 = .ok (.aload_n 0, 1) := by decide +kernel
theorem dX4_mayFail_41 : decode cX4_mayFail 41 = .ok (.iload 4, 2) := by decide +kernel
theorem dX4_mayFail_43 : decode cX4_mayFail 43 = .ok (.invokevirtual 178, 3) := by decide +kernel
theorem dX4_mayFail_46 : decode cX4_mayFail 46 = .ok (.astore 5, 2) := by decide +kernel
theorem dX4_mayFail_48 : decode cX4_mayFail 48 = .ok (.aload 5, 2) := by decide +kernel
theorem dX4_mayFail_50 : decode cX4_mayFail 50 = .ok (.ifnull 13, 3) := by decide +kernel
theorem dX4_mayFail_53 : decode cX4_mayFail 53 = .ok (.aload 5, 2) := by decide +kernel
theorem dX4_mayFail_55 : decode cX4_mayFail 55 = .ok (.getfield 195, 3) := by decide +kernel
theorem dX4_mayFail_58 : decode cX4_mayFail 58 = .ok (.ifCond .eq 5, 3) := by decide +kernel
theorem dX4_mayFail_61 : decode cX4_mayFail 61 = .ok (.iconst 0, 1) := by decide +kernel
theorem dX4_mayFail_62 : decode cX4_mayFail 62 = .ok (.ireturn, 1) := by decide +kernel
theorem dX4_mayFail_63 : decode cX4_mayFail 63 = .ok (.iinc 4 1, 3) := by decide +kernel
theorem dX4_mayFail_66 : decode cX4_mayFail 66 = .ok (.goto (-35), 3) := by decide +kernel
theorem dX4_mayFail_69 : decode cX4_mayFail 69 = .ok (.iconst 1, 1) := by decide +kernel
theorem dX4_mayFail_70 : decode cX4_mayFail 70 = .ok (.ireturn, 1) := by decide +kernel
theorem dX4_dropLegsBehind_0 : decode cX4_dropLegsBehind 0 = .ok (.aload_n 1, 1) := by decide +kernel
theorem dX4_dropLegsBehind_1 : decode cX4_dropLegsBehind 1 = .ok (.getfield 175, 3) := by decide +kernel
theorem dX4_dropLegsBehind_4 : decode cX4_dropLegsBehind 4 = .ok (.iconst 1, 1) := by decide +kernel
theorem dX4_dropLegsBehind_5 : decode cX4_dropLegsBehind 5 = .ok (.isub, 1) := by decide +kernel
theorem dX4_dropLegsBehind_6 : decode cX4_dropLegsBehind 6 = .ok (.istore_n 3, 1) := by decide +kernel
theorem dX4_dropLegsBehind_7 : decode cX4_dropLegsBehind 7 = .ok (.iload_n 3, 1) := by decide +kernel
theorem dX4_dropLegsBehind_8 : decode cX4_dropLegsBehind 8 = .ok (.iload_n 2, 1) := by decide +kernel
theorem dX4_dropLegsBehind_9 : decode cX4_dropLegsBehind 9 = .ok (.if_icmp .le 93, 3) := by decide +kernel
theorem dX4_dropLegsBehind_12 : decode cX4_dropLegsBehind 12 = .ok (.aload_n 1, 1) := by decide +kernel
theorem dX4_dropLegsBehind_13 : decode cX4_dropLegsBehind 13 = .ok (.iload_n 3, 1) := by decide +kernel
theorem dX4_dropLegsBehind_14 : decode cX4_dropLegsBehind 14 = .ok (.invokevirtual 178, 3) := by decide +kernel
theorem dX4_dropLegsBehind_17 : decode cX4_dropLegsBehind 17 = .ok (.astore 4, 2) := by decide +kernel
theorem dX4_dropLegsBehind_19 : decode cX4_dropLegsBehind 19 = .ok (.aload 4, 2) := by decide +kernel
theorem dX4_dropLegsBehind_21 : decode cX4_dropLegsBehind 21 = .ok (.ifnonnull 7, 3) := by decide +kernel
theorem dX4_dropLegsBehind_24 : decode cX4_dropLegsBehind 24 = .ok (.aconst_null, 1) := by decide +kernel
theorem dX4_dropLegsBehind_25 : decode cX4_dropLegsBehind 25 = .ok (.goto 12, 3) := by decide +kernel
theorem dX4_dropLegsBehind_28 : decode cX4_dropLegsBehind 28 = .ok (.aload_n 0, 1) := by decide +kernel
theorem dX4_dropLegsBehind_29 : decode cX4_dropLegsBehind 29 = .ok (.aload 4, 2) := by decide +kernel
theorem dX4_dropLegsBehind_31 : decode cX4_dropLegsBehind 31 = .ok (.getfield 182, 3) := by decide +kernel
theorem dX4_dropLegsBehind_34 : decode cX4_dropLegsBehind 34 = .ok (.invokevirtual 55, 3) := by decide +kernel
theorem dX4_dropLegsBehind_37 : decode cX4_dropLegsBehind 37 = .ok (.astore 5, 2) := by decide +kernel
theorem dX4_dropLegsBehind_39 : decode cX4_dropLegsBehind 39 = .ok (.aload 5, 2) := by decide +kernel
theorem dX4_dropLegsBehind_41 : decode cX4_dropLegsBehind 41 = .ok (.ifnull 55, 3) := by decide +kernel
theorem dX4_dropLegsBehind_44 : decode cX4_dropLegsBehind 44 = .ok (.aload 5, 2) := by decide +kernel
theorem dX4_dropLegsBehind_46 : decode cX4_dropLegsBehind 46 = .ok (.aload 4, 2) := by decide +kernel
theorem dX4_dropLegsBehind_48 : decode cX4_dropLegsBehind 48 = .ok (.getfield 305, 3) := by decide +kernel
theorem dX4_dropLegsBehind_51 : decode cX4_dropLegsBehind 51 = .ok (.putfield 94, 3) := by decide +kernel
theorem dX4_dropLegsBehind_54 : decode cX4_dropLegsBehind 54 = .ok (.aload 5, 2) := by decide +kernel
theorem dX4_dropLegsBehind_56 : decode cX4_dropLegsBehind 56 = .ok (.aload 4, 2) := by decide +kernel
theorem dX4_dropLegsBehind_58 : decode cX4_dropLegsBehind 58 = .ok (.getfield 308, 3) := by decide +kernel
theorem dX4_dropLegsBehind_61 : decode cX4_dropLegsBehind 61 = .ok (.putfield 101, 3) := by decide +kernel
theorem dX4_dropLegsBehind_64 : decode cX4_dropLegsBehind 64 = .ok (.aload 5, 2) := by decide +kernel
theorem dX4_dropLegsBehind_66 : decode cX4_dropLegsBehind 66 = .ok (.dup, 1) := by decide +kernel
theorem dX4_dropLegsBehind_67 : decode cX4_dropLegsBehind 67 = .ok (.getfield 104, 3) := by decide +kernel
theorem dX4_dropLegsBehind_70 : decode cX4_dropLegsBehind 70 = .ok (.iconst 1, 1) := by decide +kernel
theorem dX4_dropLegsBehind_71 : decode cX4_dropLegsBehind 71 = .ok (.isub, 1) := by decide +kernel
theorem dX4_dropLegsBehind_72 : decode cX4_dropLegsBehind 72 = .ok (.putfield 104, 3) := by decide +kernel
theorem dX4_dropLegsBehind_75 : decode cX4_dropLegsBehind 75 = .ok (.aload 5, 2) := by decide +kernel
theorem dX4_dropLegsBehind_77 : decode cX4_dropLegsBehind 77 = .ok (.dup, 1) := by decide +kernel
theorem dX4_dropLegsBehind_78 : decode cX4_dropLegsBehind 78 = .ok (.getfield 107, 3) := by decide +kernel
theorem dX4_dropLegsBehind_81 : decode cX4_dropLegsBehind 81 = .ok (.aload 4, 2) := by decide +kernel
theorem dX4_dropLegsBehind_83 : decode cX4_dropLegsBehind 83 = .ok (.getfield 192, 3) := by decide +kernel
theorem dX4_dropLegsBehind_86 : decode cX4_dropLegsBehind 86 = .ok (.aload 4, 2) := by decide +kernel
theorem dX4_dropLegsBehind_88 : decode cX4_dropLegsBehind 88 = .ok (.getfield 189, 3) := by decide +kernel
theorem dX4_dropLegsBehind_91 : decode cX4_dropLegsBehind 91 = .ok (.isub, 1) := by decide +kernel
theorem dX4_dropLegsBehind_92 : decode cX4_dropLegsBehind 92 = .ok (.isub, 1) := by decide +kernel
theorem dX4_dropLegsBehind_93 : decode cX4_dropLegsBehind 93 = .ok (.putfield 107, 3) := by decide +kernel
theorem dX4_dropLegsBehind_96 : decode cX4_dropLegsBehind 96 = .ok (.iinc 3 (-1), 3) := by decide +kernel
theorem dX4_dropLegsBehind_99 : decode cX4_dropLegsBehind 99 = .ok (.goto (-92), 3) := by decide +kernel
theorem dX4_dropLegsBehind_102 : decode cX4_dropLegsBehind 102 = .ok (.aload_n 1, 1) := by decide +kernel
theorem dX4_dropLegsBehind_103 : decode cX4_dropLegsBehind 103 = .ok (.iload_n 2, 1) := by decide +kernel
theorem dX4_dropLegsBehind_104 : decode cX4_dropLegsBehind 104 = .ok (.iconst 1, 1) := by decide +kernel
theorem dX4_dropLegsBehind_105 : decode cX4_dropLegsBehind 105 = .ok (.iadd, 1) := by decide +kernel
theorem dX4_dropLegsBehind_106 : decode cX4_dropLegsBehind 106 = .ok (.putfield 175, 3) := by decide +kernel
theorem dX4_dropLegsBehind_109 : decode cX4_dropLegsBehind 109 = .ok (.return_, 1) := by decide +kernel
theorem dX4_failLeg_0 : decode cX4_failLeg 0 = .ok (.aload_n 0, 1) := by decide +kernel
theorem dX4_failLeg_1 : decode cX4_failLeg 1 = .ok (.aload_n 1, 1) := by decide +kernel
theorem dX4_failLeg_2 : decode cX4_failLeg 2 = .ok (.getfield 182, 3) := by decide +kernel
theorem dX4_failLeg_5 : decode cX4_failLeg 5 = .ok (.invokevirtual 55, 3) := by decide +kernel
theorem dX4_failLeg_8 : decode cX4_failLeg 8 = .ok (.astore_n 3, 1) := by decide +kernel
theorem dX4_failLeg_9 : decode cX4_failLeg 9 = .ok (.aload_n 3, 1) := by decide +kernel
theorem dX4_failLeg_10 : decode cX4_failLeg 10 = .ok (.ifnull 31, 3) := by decide +kernel
theorem dX4_failLeg_13 : decode cX4_failLeg 13 = .ok (.aload_n 3, 1) := by decide +kernel
theorem dX4_failLeg_14 : decode cX4_failLeg 14 = .ok (.dup, 1) := by decide +kernel
theorem dX4_failLeg_15 : decode cX4_failLeg 15 = .ok (.getfield 107, 3) := by decide +kernel
theorem dX4_failLeg_18 : decode cX4_failLeg 18 = .ok (.aload_n 1, 1) := by decide +kernel
theorem dX4_failLeg_19 : decode cX4_failLeg 19 = .ok (.getfield 192, 3) := by decide +kernel
theorem dX4_failLeg_22 : decode cX4_failLeg 22 = .ok (.iload_n 2, 1) := by decide +kernel
theorem dX4_failLeg_23 : decode cX4_failLeg 23 = .ok (.isub, 1) := by decide +kernel
theorem dX4_failLeg_24 : decode cX4_failLeg 24 = .ok (.isub, 1) := by decide +kernel
theorem dX4_failLeg_25 : decode cX4_failLeg 25 = .ok (.putfield 107, 3) := by decide +kernel
theorem dX4_failLeg_28 : decode cX4_failLeg 28 = .ok (.aload_n 3, 1) := by decide +kernel
theorem dX4_failLeg_29 : decode cX4_failLeg 29 = .ok (.aload_n 1, 1) := by decide +kernel
theorem dX4_failLeg_30 : decode cX4_failLeg 30 = .ok (.getfield 187, 3) := by decide +kernel
theorem dX4_failLeg_33 : decode cX4_failLeg 33 = .ok (.putfield 94, 3) := by decide +kernel
theorem dX4_failLeg_36 : decode cX4_failLeg 36 = .ok (.aload_n 3, 1) := by decide +kernel
theorem dX4_failLeg_37 : decode cX4_failLeg 37 = .ok (.iconst 1, 1) := by decide +kernel
theorem dX4_failLeg_38 : decode cX4_failLeg 38 = .ok (.putfield 97, 3) := by decide +kernel
theorem dX4_failLeg_41 : decode cX4_failLeg 41 = .ok (.aload_n 1, 1) := by decide +kernel
theorem dX4_failLeg_42 : decode cX4_failLeg 42 = .ok (.iload_n 2, 1) := by decide +kernel
theorem dX4_failLeg_43 : decode cX4_failLeg 43 = .ok (.putfield 192, 3) := by decide +kernel
theorem dX4_failLeg_46 : decode cX4_failLeg 46 = .ok (.aload_n 1, 1) := by decide +kernel
theorem dX4_failLeg_47 : decode cX4_failLeg 47 = .ok (.aload_n 1, 1) := by decide +kernel
theorem dX4_failLeg_48 : decode cX4_failLeg 48 = .ok (.getfield 187, 3) := by decide +kernel
theorem dX4_failLeg_51 : decode cX4_failLeg 51 = .ok (.putfield 188, 3) := by decide +kernel
theorem dX4_failLeg_54 : decode cX4_failLeg 54 = .ok (.aload_n 1, 1) := by decide +kernel
theorem dX4_failLeg_55 : decode cX4_failLeg 55 = .ok (.iconst 1, 1) := by decide +kernel
theorem dX4_failLeg_56 : decode cX4_failLeg 56 = .ok (.putfield 195, 3) := by decide +kernel
theorem dX4_failLeg_59 : decode cX4_failLeg 59 = .ok (.return_, 1) := by decide +kernel
