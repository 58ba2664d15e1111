theorem dX7_trace_21 : decode cX7_trace 21 = .ok (.sipush 401, 3) := by decide +kernel
theorem dX7_trace_24 : decode cX7_trace 24 = .ok (.imul, 1) := by decide +kernel
theorem dX7_trace_25 : decode cX7_trace 25 = .ok (.iload 5, 2) := by decide +kernel
theorem dX7_trace_27 : decode cX7_trace 27 = .ok (.iadd, 1) := by decide +kernel
theorem dX7_trace_28 : decode cX7_trace 28 = .ok (.istore 7, 2) := by decide +kernel
theorem dX7_trace_30 : decode cX7_trace 30 = .ok (.iload 7, 2) := by decide +kernel
theorem dX7_trace_32 : decode cX7_trace 32 = .ok (.ifCond .lt 23, 3) := by decide +kernel
theorem dX7_trace_35 : decode cX7_trace 35 = .ok (.iload 7, 2) := by decide +kernel
theorem dX7_trace_37 : decode cX7_trace 37 = .ok (.aload_n 0, 1) := by decide +kernel
theorem dX7_trace_38 : decode cX7_trace 38 = .ok (.getfield 19, 3) := by decide +kernel
theorem dX7_trace_41 : decode cX7_trace 41 = .ok (.arraylength, 1) := by decide +kernel
theorem dX7_trace_42 : decode cX7_trace 42 = .ok (.if_icmp .ge 13, 3) := by decide +kernel
theorem dX7_trace_45 : decode cX7_trace 45 = .ok (.aload_n 0, 1) := by decide +kernel
theorem dX7_trace_46 : decode cX7_trace 46 = .ok (.getfield 19, 3) := by decide +kernel
theorem dX7_trace_49 : decode cX7_trace 49 = .ok (.iload 7, 2) := by decide +kernel
theorem dX7_trace_51 : decode cX7_trace 51 = .ok (.iaload, 1) := by decide +kernel
theorem dX7_trace_52 : decode cX7_trace 52 = .ok (.goto 4, 3) := by decide +kernel
theorem dX7_trace_55 : decode cX7_trace 55 = .ok (.iconst (-1), 1) := by decide +kernel
theorem dX7_trace_56 : decode cX7_trace 56 = .ok (.istore 8, 2) := by decide +kernel
theorem dX7_trace_58 : decode cX7_trace 58 = .ok (.iload 8, 2) := by decide +kernel
theorem dX7_trace_60 : decode cX7_trace 60 = .ok (.iconst (-1), 1) := by decide +kernel
theorem dX7_trace_61 : decode cX7_trace 61 = .ok (.if_icmp .ne 6, 3) := by decide +kernel
theorem dX7_trace_64 : decode cX7_trace 64 = .ok (.iload 6, 2) := by decide +kernel
theorem dX7_trace_66 : decode cX7_trace 66 = .ok (.ireturn, 1) := by decide +kernel
theorem dX7_trace_67 : decode cX7_trace 67 = .ok (.aload_n 0, 1) := by decide +kernel
theorem dX7_trace_68 : decode cX7_trace 68 = .ok (.getfield 9, 3) := by decide +kernel
theorem dX7_trace_71 : decode cX7_trace 71 = .ok (.iload 6, 2) := by decide +kernel
theorem dX7_trace_73 : decode cX7_trace 73 = .ok (.iload 8, 2) := by decide +kernel
theorem dX7_trace_75 : decode cX7_trace 75 = .ok (.iastore, 1) := by decide +kernel
theorem dX7_trace_76 : decode cX7_trace 76 = .ok (.iload 8, 2) := by decide +kernel
theorem dX7_trace_78 : decode cX7_trace 78 = .ok (.bipush (-2), 2) := by decide +kernel
theorem dX7_trace_80 : decode cX7_trace 80 = .ok (.if_icmp .ne 9, 3) := by decide +kernel
theorem dX7_trace_83 : decode cX7_trace 83 = .ok (.iinc 5 1, 3) := by decide +kernel
theorem dX7_trace_86 : decode cX7_trace 86 = .ok (.goto 57, 3) := by decide +kernel
theorem dX7_trace_89 : decode cX7_trace 89 = .ok (.aload_n 1, 1) := by decide +kernel
theorem dX7_trace_90 : decode cX7_trace 90 = .ok (.iload 8, 2) := by decide +kernel
theorem dX7_trace_92 : decode cX7_trace 92 = .ok (.bipush 100, 2) := by decide +kernel
theorem dX7_trace_94 : decode cX7_trace 94 = .ok (.idiv, 1) := by decide +kernel
theorem dX7_trace_95 : decode cX7_trace 95 = .ok (.invokevirtual 161, 3) := by decide +kernel
theorem dX7_trace_98 : decode cX7_trace 98 = .ok (.ifCond .eq 45, 3) := by decide +kernel
theorem dX7_trace_101 : decode cX7_trace 101 = .ok (.aload_n 1, 1) := by decide +kernel
theorem dX7_trace_102 : decode cX7_trace 102 = .ok (.getfield 98, 3) := by decide +kernel
theorem dX7_trace_105 : decode cX7_trace 105 = .ok (.iload 8, 2) := by decide +kernel
theorem dX7_trace_107 : decode cX7_trace 107 = .ok (.bipush 100, 2) := by decide +kernel
theorem dX7_trace_109 : decode cX7_trace 109 = .ok (.idiv, 1) := by decide +kernel
theorem dX7_trace_110 : decode cX7_trace 110 = .ok (.aaload, 1) := by decide +kernel
theorem dX7_trace_111 : decode cX7_trace 111 = .ok (.astore 9, 2) := by decide +kernel
theorem dX7_trace_113 : decode cX7_trace 113 = .ok (.aload 9, 2) := by decide +kernel
theorem dX7_trace_115 : decode cX7_trace 115 = .ok (.iload 8, 2) := by decide +kernel
theorem dX7_trace_117 : decode cX7_trace 117 = .ok (.bipush 10, 2) := by decide +kernel
theorem dX7_trace_119 : decode cX7_trace 119 = .ok (.idiv, 1) := by decide +kernel
theorem dX7_trace_120 : decode cX7_trace 120 = .ok (.bipush 10, 2) := by decide +kernel
theorem dX7_trace_122 : decode cX7_trace 122 = .ok (.irem, 1) := by decide +kernel
theorem dX7_trace_123 : decode cX7_trace 123 = .ok (.invokevirtual 152, 3) := by decide +kernel
theorem dX7_trace_126 : decode cX7_trace 126 = .ok (.istore 4, 2) := by decide +kernel
theorem dX7_trace_128 : decode cX7_trace 128 = .ok (.iload 5, 2) := by decide +kernel
theorem dX7_trace_130 : decode cX7_trace 130 = .ok (.aload 9, 2) := by decide +kernel
theorem dX7_trace_132 : decode cX7_trace 132 = .ok (.iload 8, 2) := by decide +kernel
theorem dX7_trace_134 : decode cX7_trace 134 = .ok (.bipush 10, 2) := by decide +kernel
theorem dX7_trace_136 : decode cX7_trace 136 = .ok (.irem, 1) := by decide +kernel
theorem dX7_trace_137 : decode cX7_trace 137 = .ok (.invokevirtual 142, 3) := by decide +kernel
theorem dX7_trace_140 : decode cX7_trace 140 = .ok (.iadd, 1) := by decide +kernel
theorem dX7_trace_141 : decode cX7_trace 141 = .ok (.istore 5, 2) := by decide +kernel
theorem dX7_trace_143 : decode cX7_trace 143 = .ok (.iinc 6 1, 3) := by decide +kernel
theorem dX7_trace_146 : decode cX7_trace 146 = .ok (.goto (-137), 3) := by decide +kernel
theorem dX7_trace_149 : decode cX7_trace 149 = .ok (.aload_n 0, 1) := by decide +kernel
theorem dX7_trace_150 : decode cX7_trace 150 = .ok (.getfield 9, 3) := by decide +kernel
theorem dX7_trace_153 : decode cX7_trace 153 = .ok (.arraylength, 1) := by decide +kernel
theorem dX7_trace_154 : decode cX7_trace 154 = .ok (.ireturn, 1) := by decide +kernel
theorem dX8_init_0 : decode cX8_init 0 = .ok (.aload_n 0, 1) := by decide +kernel
theorem dX8_init_1 : decode cX8_init 1 = .ok (.invokespecial 3, 3) := by decide +kernel
theorem dX8_init_4 : decode cX8_init 4 = .ok (.aload_n 0, 1) := by decide +kernel
theorem dX8_init_5 : decode cX8_init 5 = .ok (.bipush 6, 2) := by decide +kernel
theorem dX8_init_7 : decode cX8_init 7 = .ok (.anewarray 9, 3) := by decide +kernel
theorem dX8_init_10 : decode cX8_init 10 = .ok (.putfield 11, 3) := by decide +kernel
theorem dX8_init_13 : decode cX8_init 13 = .ok (.aload_n 0, 1) := by decide +kernel
theorem dX8_init_14 : decode cX8_init 14 = .ok (.bipush 8, 2) := by decide +kernel
theorem dX8_init_16 : decode cX8_init 16 = .ok (.newarray .int, 2) := by decide +kernel
theorem dX8_init_18 : decode cX8_init 18 = .ok (.putfield 17, 3) := by decide +kernel
theorem dX8_init_21 : decode cX8_init 21 = .ok (.aload_n 0, 1) := by decide +kernel
theorem dX8_init_22 : decode cX8_init 22 = .ok (.bipush 12, 2) := by decide +kernel
theorem dX8_init_24 : decode cX8_init 24 = .ok (.anewarray 21, 3) := by decide +kernel
theorem dX8_init_27 : decode cX8_init 27 = .ok (.putfield 23, 3) := by decide +kernel
theorem dX8_init_30 : decode cX8_init 30 = .ok (.aload_n 0, 1) := by decide +kernel
theorem dX8_init_31 : decode cX8_init 31 = .ok (.iconst 4, 1) := by decide +kernel
theorem dX8_init_32 : decode cX8_init 32 = .ok (.anewarray 27, 3) := by decide +kernel
theorem dX8_init_35 : decode cX8_init 35 = .ok (.putfield 29, 3) := by decide +kernel
theorem dX8_init_38 : decode cX8_init 38 = .ok (.aload_n 0, 1) := by decide +kernel
theorem dX8_init_39 : decode cX8_init 39 = .ok (.iconst 4, 1) := by decide +kernel
theorem dX8_init_40 : decode cX8_init 40 = .ok (.newarray .int, 2) := by decide +kernel
theorem dX8_init_42 : decode cX8_init 42 = .ok (.putfield 33, 3) := by decide +kernel
theorem dX8_init_45 : decode cX8_init 45 = .ok (.aload_n 0, 1) := by decide +kernel
theorem dX8_init_46 : decode cX8_init 46 = .ok (.bipush 20, 2) := by decide +kernel
theorem dX8_init_48 : decode cX8_init 48 = .ok (.newarray .int, 2) := by decide +kernel
theorem dX8_init_50 : decode cX8_init 50 = .ok (.putfield 36, 3) := by decide +kernel
theorem dX8_init_53 : decode cX8_init 53 = .ok (.iconst 0, 1) := by decide +kernel
theorem dX8_init_54 : decode cX8_init 54 = .ok (.istore_n 1, 1) := by decide +kernel
theorem dX8_init_55 : decode cX8_init 55 = .ok (.iload_n 1, 1) := by decide +kernel
theorem dX8_init_56 : decode cX8_init 56 = .ok (.aload_n 0, 1) := by decide +kernel
theorem dX8_init_57 : decode cX8_init 57 = .ok (.getfield 11, 3) := by decide +kernel
theorem dX8_init_60 : decode cX8_init 60 = .ok (.arraylength, 1) := by decide +kernel
theorem dX8_init_61 : decode cX8_init 61 = .ok (.if_icmp .ge 22, 3) := by decide +kernel
theorem dX8_init_64 : decode cX8_init 64 = .ok (.aload_n 0, 1) := by decide +kernel
theorem dX8_init_65 : decode cX8_init 65 = .ok (.getfield 11, 3) := by decide +kernel
theorem dX8_init_68 : decode cX8_init 68 = .ok (.iload_n 1, 1) := by decide +kernel
theorem dX8_init_69 : decode cX8_init 69 = .ok (.new 9, 3) := by decide +kernel
theorem dX8_init_72 : decode cX8_init 72 = .ok (.dup, 1) := by decide +kernel
theorem dX8_init_73 : decode cX8_init 73 = .ok (.invokespecial 39, 3) := by decide +kernel
theorem dX8_init_76 : decode cX8_init 76 = .ok (.aastore, 1) := by decide +kernel
theorem dX8_init_77 : decode cX8_init 77 = .ok (.iinc 1 1, 3) := by decide +kernel
theorem dX8_init_80 : decode cX8_init 80 = .ok (.goto (-25), 3) := by decide +kernel
theorem dX8_init_83 : decode cX8_init 83 = .ok (.iconst 0, 1) := by decide +kernel
theorem dX8_init_84 : decode cX8_init 84 = .ok (.istore_n 1, 1) := by decide +kernel
theorem dX8_init_85 : decode cX8_init 85 = .ok (.iload_n 1, 1) := by decide +kernel
theorem dX8_init_86 : decode cX8_init 86 = .ok (.aload_n 0, 1) := by decide +kernel
theorem dX8_init_87 : decode cX8_init 87 = .ok (.getfield 23, 3) := by decide +kernel
theorem dX8_init_90 : decode cX8_init 90 = .ok (.arraylength, 1) := by decide +kernel
theorem dX8_init_91 : decode cX8_init 91 = .ok (.if_icmp .ge 22, 3) := by decide +kernel
theorem dX8_init_94 : decode cX8_init 94 = .ok (.aload_n 0, 1) := by decide +kernel
theorem dX8_init_95 : decode cX8_init 95 = .ok (.getfield 23, 3) := by decide +kernel
theorem dX8_init_98 : decode cX8_init 98 = .ok (.iload_n 1, 1) := by decide +kernel
theorem dX8_init_99 : decode cX8_init 99 = .ok (.new 21, 3) := by decide +kernel
theorem dX8_init_102 : decode cX8_init 102 = .ok (.dup, 1) := by decide +kernel
theorem dX8_init_103 : decode cX8_init 103 = .ok (.invokespecial 40, 3) := by decide +kernel
theorem dX8_init_106 : decode cX8_init 106 = .ok (.aastore, 1) := by decide +kernel
theorem dX8_init_107 : decode cX8_init 107 = .ok (.iinc 1 1, 3) := by decide +kernel
theorem dX8_init_110 : decode cX8_init 110 = .ok (.goto (-25), 3) := by decide +kernel
theorem dX8_init_113 : decode cX8_init 113 = .ok (.iconst 0, 1) := by decide +kernel
theorem dX8_init_114 : decode cX8_init 114 = .ok (.istore_n 1, 1) := by decide +kernel
theorem dX8_init_115 : decode cX8_init 115 = .ok (.iload_n 1, 1) := by decide +kernel
theorem dX8_init_116 : decode cX8_init 116 = .ok (.aload_n 0, 1) := by decide +kernel
theorem dX8_init_117 : decode cX8_init 117 = .ok (.getfield 29, 3) := by decide +kernel
theorem dX8_init_120 : decode cX8_init 120 = .ok (.arraylength, 1) := by decide +kernel
theorem dX8_init_121 : decode cX8_init 121 = .ok (.if_icmp .ge 22, 3) := by decide +kernel
theorem dX8_init_124 : decode cX8_init 124 = .ok (.aload_n 0, 1) := by decide +kernel
theorem dX8_init_125 : decode cX8_init 125 = .ok (.getfield 29, 3) := by decide +kernel
theorem dX8_init_128 : decode cX8_init 128 = .ok (.iload_n 1, 1) := by decide +kernel
theorem dX8_init_129 : decode cX8_init 129 = .ok (.new 27, 3) := by decide +kernel
theorem dX8_init_132 : decode cX8_init 132 = .ok (.dup, 1) := by decide +kernel
theorem dX8_init_133 : decode cX8_init 133 = .ok (.invokespecial 41, 3) := by decide +kernel
theorem dX8_init_136 : decode cX8_init 136 = .ok (.aastore, 1) := by decide +kernel
theorem dX8_init_137 : decode cX8_init 137 = .ok (.iinc 1 1, 3) := by decide +kernel
theorem dX8_init_140 : decode cX8_init 140 = .ok (.goto (-25), 3) := by decide +kernel
theorem dX8_init_143 : decode cX8_init 143 = .ok (.return_, 1) := by decide +kernel
theorem dX8_clear_0 : decode cX8_clear 0 = .ok (.aload_n 0, 1) := by decide +kernel
theorem dX8_clear_1 : decode cX8_clear 1 = .ok (.iconst 0, 1) := by decide +kernel
theorem dX8_clear_2 : decode cX8_clear 2 = .ok (.putfield 42, 3) := by decide +kernel
theorem dX8_clear_5 : decode cX8_clear 5 = .ok (.aload_n 0, 1) := by decide +kernel
theorem dX8_clear_6 : decode cX8_clear 6 = .ok (.iconst 0, 1) := by decide +kernel
theorem dX8_clear_7 : decode cX8_clear 7 = .ok (.putfield 46, 3) := by decide +kernel
theorem dX8_clear_10 : decode cX8_clear 10 = .ok (.aload_n 0, 1) := by decide +kernel
theorem dX8_clear_11 : decode cX8_clear 11 = .ok (.iconst 0, 1) := by decide +kernel
theorem dX8_clear_12 : decode cX8_clear 12 = .ok (.putfield 49, 3) := by decide +kernel
theorem dX8_clear_15 : decode cX8_clear 15 = .ok (.aload_n 0, 1) := by decide +kernel
theorem dX8_clear_16 : decode cX8_clear 16 = .ok (.iconst 0, 1) := by decide +kernel
theorem dX8_clear_17 : decode cX8_clear 17 = .ok (.putfield 52, 3) := by decide +kernel
theorem dX8_clear_20 : decode cX8_clear 20 = .ok (.aload_n 0, 1) := by decide +kernel
theorem dX8_clear_21 : decode cX8_clear 21 = .ok (.iconst 0, 1) := by decide +kernel
theorem dX8_clear_22 : decode cX8_clear 22 = .ok (.putfield 55, 3) := by decide +kernel
theorem dX8_clear_25 : decode cX8_clear 25 = .ok (.aload_n 0, 1) := by decide +kernel
theorem dX8_clear_26 : decode cX8_clear 26 = .ok (.iconst 0, 1) := by decide +kernel
theorem dX8_clear_27 : decode cX8_clear 27 = .ok (.putfield 58, 3) := by decide +kernel
theorem dX8_clear_30 : decode cX8_clear 30 = .ok (.return_, 1) := by decide +kernel
theorem dX8_isTold_0 : decode cX8_isTold 0 = .ok (.aload_n 0, 1) := by decide +kernel
theorem dX8_isTold_1 : decode cX8_isTold 1 = .ok (.getfield 42, 3) := by decide +kernel
theorem dX8_isTold_4 : decode cX8_isTold 4 = .ok (.ifCond .le 7, 3) := by decide +kernel
theorem dX8_isTold_7 : decode cX8_isTold 7 = .ok (.iconst 1, 1) := by decide +kernel
theorem dX8_isTold_8 : decode cX8_isTold 8 = .ok (.goto 4, 3) := by decide +kernel
theorem dX8_isTold_11 : decode cX8_isTold 11 = .ok (.iconst 0, 1) := by decide +kernel
theorem dX8_isTold_12 : decode cX8_isTold 12 = .ok (.ireturn, 1) := by decide +kernel
theorem dX8_hasHour_0 : decode cX8_hasHour 0 = .ok (.iload_n 1, 1) := by decide +kernel
theorem dX8_hasHour_1 : decode cX8_hasHour 1 = .ok (.ifCond .lt 24, 3) := by decide +kernel
theorem dX8_hasHour_4 : decode cX8_hasHour 4 = .ok (.iload_n 1, 1) := by decide +kernel
theorem dX8_hasHour_5 : decode cX8_hasHour 5 = .ok (.aload_n 0, 1) := by decide +kernel
theorem dX8_hasHour_6 : decode cX8_hasHour 6 = .ok (.getfield 46, 3) := by decide +kernel
theorem dX8_hasHour_9 : decode cX8_hasHour 9 = .ok (.if_icmp .ge 16, 3) := by decide +kernel
theorem dX8_hasHour_12 : decode cX8_hasHour 12 = .ok (.iload_n 1, 1) := by decide +kernel
theorem dX8_hasHour_13 : decode cX8_hasHour 13 = .ok (.aload_n 0, 1) := by decide +kernel
theorem dX8_hasHour_14 : decode cX8_hasHour 14 = .ok (.getfield 11, 3) := by decide +kernel
theorem dX8_hasHour_17 : decode cX8_hasHour 17 = .ok (.arraylength, 1) := by decide +kernel
theorem dX8_hasHour_18 : decode cX8_hasHour 18 = .ok (.if_icmp .ge 7, 3) := by decide +kernel
theorem dX8_hasHour_21 : decode cX8_hasHour 21 = .ok (.iconst 1, 1) := by decide +kernel
theorem dX8_hasHour_22 : decode cX8_hasHour 22 = .ok (.goto 4, 3) := by decide +kernel
theorem dX8_hasHour_25 : decode cX8_hasHour 25 = .ok (.iconst 0, 1) := by decide +kernel
theorem dX8_hasHour_26 : decode cX8_hasHour 26 = .ok (.ireturn, 1) := by decide +kernel
theorem dX8_hasPlace_0 : decode cX8_hasPlace 0 = .ok (.iload_n 1, 1) := by decide +kernel
theorem dX8_hasPlace_1 : decode cX8_hasPlace 1 = .ok (.ifCond .lt 24, 3) := by decide +kernel
theorem dX8_hasPlace_4 : decode cX8_hasPlace 4 = .ok (.iload_n 1, 1) := by decide +kernel
theorem dX8_hasPlace_5 : decode cX8_hasPlace 5 = .ok (.aload_n 0, 1) := by decide +kernel
theorem dX8_hasPlace_6 : decode cX8_hasPlace 6 = .ok (.getfield 49, 3) := by decide +kernel
theorem dX8_hasPlace_9 : decode cX8_hasPlace 9 = .ok (.if_icmp .ge 16, 3) := by decide +kernel
theorem dX8_hasPlace_12 : decode cX8_hasPlace 12 = .ok (.iload_n 1, 1) := by decide +kernel
theorem dX8_hasPlace_13 : decode cX8_hasPlace 13 = .ok (.aload_n 0, 1) := by decide +kernel
theorem dX8_hasPlace_14 : decode cX8_hasPlace 14 = .ok (.getfield 17, 3) := by decide +kernel
theorem dX8_hasPlace_17 : decode cX8_hasPlace 17 = .ok (.arraylength, 1) := by decide +kernel
theorem dX8_hasPlace_18 : decode cX8_hasPlace 18 = .ok (.if_icmp .ge 7, 3) := by decide +kernel
theorem dX8_hasPlace_21 : decode cX8_hasPlace 21 = .ok (.iconst 1, 1) := by decide +kernel
theorem dX8_hasPlace_22 : decode cX8_hasPlace 22 = .ok (.goto 4, 3) := by decide +kernel
theorem dX8_hasPlace_25 : decode cX8_hasPlace 25 = .ok (.iconst 0, 1) := by decide +kernel
theorem dX8_hasPlace_26 : decode cX8_hasPlace 26 = .ok (.ireturn, 1) := by decide +kernel
theorem dX8_hasRoad_0 : decode cX8_hasRoad 0 = .ok (.iload_n 1, 1) := by decide +kernel
theorem dX8_hasRoad_1 : decode cX8_hasRoad 1 = .ok (.ifCond .lt 24, 3) := by decide +kernel
theorem dX8_hasRoad_4 : decode cX8_hasRoad 4 = .ok (.iload_n 1, 1) := by decide +kernel
theorem dX8_hasRoad_5 : decode cX8_hasRoad 5 = .ok (.aload_n 0, 1) := by decide +kernel
theorem dX8_hasRoad_6 : decode cX8_hasRoad 6 = .ok (.getfield 52, 3) := by decide +kernel
theorem dX8_hasRoad_9 : decode cX8_hasRoad 9 = .ok (.if_icmp .ge 16, 3) := by decide +kernel
theorem dX8_hasRoad_12 : decode cX8_hasRoad 12 = .ok (.iload_n 1, 1) := by decide +kernel
theorem dX8_hasRoad_13 : decode cX8_hasRoad 13 = .ok (.aload_n 0, 1) := by decide +kernel
theorem dX8_hasRoad_14 : decode cX8_hasRoad 14 = .ok (.getfield 23, 3) := by decide +kernel
theorem dX8_hasRoad_17 : decode cX8_hasRoad 17 = .ok (.arraylength, 1) := by decide +kernel
theorem dX8_hasRoad_18 : decode cX8_hasRoad 18 = .ok (.if_icmp .ge 7, 3) := by decide +kernel
theorem dX8_hasRoad_21 : decode cX8_hasRoad 21 = .ok (.iconst 1, 1) := by decide +kernel
theorem dX8_hasRoad_22 : decode cX8_hasRoad 22 = .ok (.goto 4, 3) := by decide +kernel
theorem dX8_hasRoad_25 : decode cX8_hasRoad 25 = .ok (.iconst 0, 1) := by decide +kernel
theorem dX8_hasRoad_26 : decode cX8_hasRoad 26 = .ok (.ireturn, 1) := by decide +kernel
theorem dX8_hasWalker_0 : decode cX8_hasWalker 0 = .ok (.iload_n 1, 1) := by decide +kernel
theorem dX8_hasWalker_1 : decode cX8_hasWalker 1 = .ok (.ifCond .lt 24, 3) := by decide +kernel
theorem dX8_hasWalker_4 : decode cX8_hasWalker 4 = .ok (.iload_n 1, 1) := by decide +kernel
theorem dX8_hasWalker_5 : decode cX8_hasWalker 5 = .ok (.aload_n 0, 1) := by decide +kernel
theorem dX8_hasWalker_6 : decode cX8_hasWalker 6 = .ok (.getfield 55, 3) := by decide +kernel
theorem dX8_hasWalker_9 : decode cX8_hasWalker 9 = .ok (.if_icmp .ge 16, 3) := by decide +kernel
theorem dX8_hasWalker_12 : decode cX8_hasWalker 12 = .ok (.iload_n 1, 1) := by decide +kernel
theorem dX8_hasWalker_13 : decode cX8_hasWalker 13 = .ok (.aload_n 0, 1) := by decide +kernel
theorem dX8_hasWalker_14 : decode cX8_hasWalker 14 = .ok (.getfield 29, 3) := by decide +kernel
theorem dX8_hasWalker_17 : decode cX8_hasWalker 17 = .ok (.arraylength, 1) := by decide +kernel
theorem dX8_hasWalker_18 : decode cX8_hasWalker 18 = .ok (.if_icmp .ge 7, 3) := by decide +kernel
theorem dX8_hasWalker_21 : decode cX8_hasWalker 21 = .ok (.iconst 1, 1) := by decide +kernel
theorem dX8_hasWalker_22 : decode cX8_hasWalker 22 = .ok (.goto 4, 3) := by decide +kernel
theorem dX8_hasWalker_25 : decode cX8_hasWalker 25 = .ok (.iconst 0, 1) := by decide +kernel
theorem dX8_hasWalker_26 : decode cX8_hasWalker 26 = .ok (.ireturn, 1) := by decide +kernel
theorem dX8_hasSeen_0 : decode cX8_hasSeen 0 = .ok (.iload_n 1, 1) := by decide +kernel
theorem dX8_hasSeen_1 : decode cX8_hasSeen 1 = .ok (.ifCond .lt 24, 3) := by decide +kernel
theorem dX8_hasSeen_4 : decode cX8_hasSeen 4 = .ok (.iload_n 1, 1) := by decide +kernel
theorem dX8_hasSeen_5 : decode cX8_hasSeen 5 = .ok (.aload_n 0, 1) := by decide +kernel
theorem dX8_hasSeen_6 : decode cX8_hasSeen 6 = .ok (.getfield 58, 3) := by decide +kernel
theorem dX8_hasSeen_9 : decode cX8_hasSeen 9 = .ok (.if_icmp .ge 16, 3) := by decide +kernel
theorem dX8_hasSeen_12 : decode cX8_hasSeen 12 = .ok (.iload_n 1, 1) := by decide +kernel
theorem dX8_hasSeen_13 : decode cX8_hasSeen 13 = .ok (.aload_n 0, 1) := by decide +kernel
theorem dX8_hasSeen_14 : decode cX8_hasSeen 14 = .ok (.getfield 33, 3) := by decide +kernel
theorem dX8_hasSeen_17 : decode cX8_hasSeen 17 = .ok (.arraylength, 1) := by decide +kernel
theorem dX8_hasSeen_18 : decode cX8_hasSeen 18 = .ok (.if_icmp .ge 7, 3) := by decide +kernel
theorem dX8_hasSeen_21 : decode cX8_hasSeen 21 = .ok (.iconst 1, 1) := by decide +kernel
theorem dX8_hasSeen_22 : decode cX8_hasSeen 22 = .ok (.goto 4, 3) := by decide +kernel
theorem dX8_hasSeen_25 : decode cX8_hasSeen 25 = .ok (.iconst 0, 1) := by decide +kernel
theorem dX8_hasSeen_26 : decode cX8_hasSeen 26 = .ok (.ireturn, 1) := by decide +kernel
theorem dX8_hourOf_0 : decode cX8_hourOf 0 = .ok (.aload_n 0, 1) := by decide +kernel
theorem dX8_hourOf_1 : decode cX8_hourOf 1 = .ok (.getfield 42, 3) := by decide +kernel
theorem dX8_hourOf_4 : decode cX8_hourOf 4 = .ok (.ifCond .le 12, 3) := by decide +kernel
theorem dX8_hourOf_7 : decode cX8_hourOf 7 = .ok (.iload_n 1, 1) := by decide +kernel
theorem dX8_hourOf_8 : decode cX8_hourOf 8 = .ok (.aload_n 0, 1) := by decide +kernel
theorem dX8_hourOf_9 : decode cX8_hourOf 9 = .ok (.getfield 42, 3) := by decide +kernel
theorem dX8_hourOf_12 : decode cX8_hourOf 12 = .ok (.idiv, 1) := by decide +kernel
theorem dX8_hourOf_13 : decode cX8_hourOf 13 = .ok (.goto 4, 3) := by decide +kernel
theorem dX8_hourOf_16 : decode cX8_hourOf 16 = .ok (.iconst 0, 1) := by decide +kernel
theorem dX8_hourOf_17 : decode cX8_hourOf 17 = .ok (.ireturn, 1) := by decide +kernel
theorem dX8_canWait_0 : decode cX8_canWait 0 = .ok (.aload_n 0, 1) := by decide +kernel
theorem dX8_canWait_1 : decode cX8_canWait 1 = .ok (.iload_n 1, 1) := by decide +kernel
theorem dX8_canWait_2 : decode cX8_canWait 2 = .ok (.invokevirtual 61, 3) := by decide +kernel
theorem dX8_canWait_5 : decode cX8_canWait 5 = .ok (.ifCond .eq 17, 3) := by decide +kernel
theorem dX8_canWait_8 : decode cX8_canWait 8 = .ok (.aload_n 0, 1) := by decide +kernel
theorem dX8_canWait_9 : decode cX8_canWait 9 = .ok (.getfield 17, 3) := by decide +kernel
theorem dX8_canWait_12 : decode cX8_canWait 12 = .ok (.iload_n 1, 1) := by decide +kernel
theorem dX8_canWait_13 : decode cX8_canWait 13 = .ok (.iaload, 1) := by decide +kernel
theorem dX8_canWait_14 : decode cX8_canWait 14 = .ok (.iconst (-1), 1) := by decide +kernel
theorem dX8_canWait_15 : decode cX8_canWait 15 = .ok (.if_icmp .eq 7, 3) := by decide +kernel
theorem dX8_canWait_18 : decode cX8_canWait 18 = .ok (.iconst 1, 1) := by decide +kernel
theorem dX8_canWait_19 : decode cX8_canWait 19 = .ok (.goto 4, 3) := by decide +kernel
theorem dX8_canWait_22 : decode cX8_canWait 22 = .ok (.iconst 0, 1) := by decide +kernel
theorem dX8_canWait_23 : decode cX8_canWait 23 = .ok (.ireturn, 1) := by decide +kernel
theorem dX8_dripOn_0 : decode cX8_dripOn 0 = .ok (.aload_n 0, 1) := by decide +kernel
theorem dX8_dripOn_1 : decode cX8_dripOn 1 = .ok (.iload_n 2, 1) := by decide +kernel
theorem dX8_dripOn_2 : decode cX8_dripOn 2 = .ok (.invokevirtual 65, 3) := by decide +kernel
theorem dX8_dripOn_5 : decode cX8_dripOn 5 = .ok (.ifCond .eq 26, 3) := by decide +kernel
theorem dX8_dripOn_8 : decode cX8_dripOn 8 = .ok (.aload_n 0, 1) := by decide +kernel
theorem dX8_dripOn_9 : decode cX8_dripOn 9 = .ok (.getfield 17, 3) := by decide +kernel
theorem dX8_dripOn_12 : decode cX8_dripOn 12 = .ok (.iload_n 2, 1) := by decide +kernel
theorem dX8_dripOn_13 : decode cX8_dripOn 13 = .ok (.iaload, 1) := by decide +kernel
theorem dX8_dripOn_14 : decode cX8_dripOn 14 = .ok (.aload_n 1, 1) := by decide +kernel
theorem dX8_dripOn_15 : decode cX8_dripOn 15 = .ok (.getfield 68, 3) := by decide +kernel
theorem dX8_dripOn_18 : decode cX8_dripOn 18 = .ok (.aload_n 1, 1) := by decide +kernel
theorem dX8_dripOn_19 : decode cX8_dripOn 19 = .ok (.invokevirtual 71, 3) := by decide +kernel
theorem dX8_dripOn_22 : decode cX8_dripOn 22 = .ok (.isub, 1) := by decide +kernel
theorem dX8_dripOn_23 : decode cX8_dripOn 23 = .ok (.iconst 0, 1) := by decide +kernel
theorem dX8_dripOn_24 : decode cX8_dripOn 24 = .ok (.invokestatic 75, 3) := by decide +kernel
theorem dX8_dripOn_27 : decode cX8_dripOn 27 = .ok (.imul, 1) := by decide +kernel
theorem dX8_dripOn_28 : decode cX8_dripOn 28 = .ok (.goto 4, 3) := by decide +kernel
theorem dX8_dripOn_31 : decode cX8_dripOn 31 = .ok (.iconst 0, 1) := by decide +kernel
theorem dX8_dripOn_32 : decode cX8_dripOn 32 = .ok (.ireturn, 1) := by decide +kernel
theorem dX9_init_0 : decode cX9_init 0 = .ok (.aload_n 0, 1) := by decide +kernel
theorem dX9_init_1 : decode cX9_init 1 = .ok (.invokespecial 1, 3) := by decide +kernel
theorem dX9_init_4 : decode cX9_init 4 = .ok (.aload_n 0, 1) := by decide +kernel
theorem dX9_init_5 : decode cX9_init 5 = .ok (.sipush 900, 3) := by decide +kernel
theorem dX9_init_8 : decode cX9_init 8 = .ok (.newarray .byte, 2) := by decide +kernel
theorem dX9_init_10 : decode cX9_init 10 = .ok (.putfield 9, 3) := by decide +kernel
theorem dX9_init_13 : decode cX9_init 13 = .ok (.aload_n 0, 1) := by decide +kernel
theorem dX9_init_14 : decode cX9_init 14 = .ok (.new 13, 3) := by decide +kernel
theorem dX9_init_17 : decode cX9_init 17 = .ok (.dup, 1) := by decide +kernel
theorem dX9_init_18 : decode cX9_init 18 = .ok (.invokespecial 15, 3) := by decide +kernel
theorem dX9_init_21 : decode cX9_init 21 = .ok (.putfield 16, 3) := by decide +kernel
theorem dX9_init_24 : decode cX9_init 24 = .ok (.aload_n 0, 1) := by decide +kernel
theorem dX9_init_25 : decode cX9_init 25 = .ok (.new 20, 3) := by decide +kernel
theorem dX9_init_28 : decode cX9_init 28 = .ok (.dup, 1) := by decide +kernel
theorem dX9_init_29 : decode cX9_init 29 = .ok (.invokespecial 22, 3) := by decide +kernel
theorem dX9_init_32 : decode cX9_init 32 = .ok (.putfield 23, 3) := by decide +kernel
theorem dX9_init_35 : decode cX9_init 35 = .ok (.aload_n 0, 1) := by decide +kernel
theorem dX9_init_36 : decode cX9_init 36 = .ok (.new 27, 3) := by decide +kernel
theorem dX9_init_39 : decode cX9_init 39 = .ok (.dup, 1) := by decide +kernel
theorem dX9_init_40 : decode cX9_init 40 = .ok (.invokespecial 29, 3) := by decide +kernel
theorem dX9_init_43 : decode cX9_init 43 = .ok (.putfield 30, 3) := by decide +kernel
theorem dX9_init_46 : decode cX9_init 46 = .ok (.aload_n 0, 1) := by decide +kernel
theorem dX9_init_47 : decode cX9_init 47 = .ok (.new 34, 3) := by decide +kernel
theorem dX9_init_50 : decode cX9_init 50 = .ok (.dup, 1) := by decide +kernel
theorem dX9_init_51 : decode cX9_init 51 = .ok (.invokespecial 36, 3) := by decide +kernel
theorem dX9_init_54 : decode cX9_init 54 = .ok (.putfield 37, 3) := by decide +kernel
theorem dX9_init_57 : decode cX9_init 57 = .ok (.aload_n 0, 1) := by decide +kernel
theorem dX9_init_58 : decode cX9_init 58 = .ok (.new 41, 3) := by decide +kernel
theorem dX9_init_61 : decode cX9_init 61 = .ok (.dup, 1) := by decide +kernel
theorem dX9_init_62 : decode cX9_init 62 = .ok (.invokespecial 43, 3) := by decide +kernel
theorem dX9_init_65 : decode cX9_init 65 = .ok (.putfield 44, 3) := by decide +kernel
theorem dX9_init_68 : decode cX9_init 68 = .ok (.return_, 1) := by decide +kernel
theorem dX9_feed_0 : decode cX9_feed 0 = .ok (.aload_n 0, 1) := by decide +kernel
theorem dX9_feed_1 : decode cX9_feed 1 = .ok (.getfield 48, 3) := by decide +kernel
theorem dX9_feed_4 : decode cX9_feed 4 = .ok (.bipush 20, 2) := by decide +kernel
theorem dX9_feed_6 : decode cX9_feed 6 = .ok (.iadd, 1) := by decide +kernel
theorem dX9_feed_7 : decode cX9_feed 7 = .ok (.sipush 900, 3) := by decide +kernel
theorem dX9_feed_10 : decode cX9_feed 10 = .ok (.if_icmp .le 5, 3) := by decide +kernel
theorem dX9_feed_13 : decode cX9_feed 13 = .ok (.iconst (-1), 1) := by decide +kernel
theorem dX9_feed_14 : decode cX9_feed 14 = .ok (.ireturn, 1) := by decide +kernel
theorem dX9_feed_15 : decode cX9_feed 15 = .ok (.aload_n 0, 1) := by decide +kernel
theorem dX9_feed_16 : decode cX9_feed 16 = .ok (.iload_n 1, 1) := by decide +kernel
theorem dX9_feed_17 : decode cX9_feed 17 = .ok (.invokevirtual 52, 3) := by decide +kernel
theorem dX9_feed_20 : decode cX9_feed 20 = .ok (.aload_n 0, 1) := by decide +kernel
theorem dX9_feed_21 : decode cX9_feed 21 = .ok (.iload_n 2, 1) := by decide +kernel
theorem dX9_feed_22 : decode cX9_feed 22 = .ok (.invokevirtual 52, 3) := by decide +kernel
theorem dX9_feed_25 : decode cX9_feed 25 = .ok (.aload_n 0, 1) := by decide +kernel
theorem dX9_feed_26 : decode cX9_feed 26 = .ok (.iload_n 3, 1) := by decide +kernel
theorem dX9_feed_27 : decode cX9_feed 27 = .ok (.invokevirtual 52, 3) := by decide +kernel
theorem dX9_feed_30 : decode cX9_feed 30 = .ok (.aload_n 0, 1) := by decide +kernel
theorem dX9_feed_31 : decode cX9_feed 31 = .ok (.iload 4, 2) := by decide +kernel
theorem dX9_feed_33 : decode cX9_feed 33 = .ok (.invokevirtual 52, 3) := by decide +kernel
theorem dX9_feed_36 : decode cX9_feed 36 = .ok (.aload_n 0, 1) := by decide +kernel
theorem dX9_feed_37 : decode cX9_feed 37 = .ok (.iload 5, 2) := by decide +kernel
theorem dX9_feed_39 : decode cX9_feed 39 = .ok (.invokevirtual 52, 3) := by decide +kernel
theorem dX9_feed_42 : decode cX9_feed 42 = .ok (.aload_n 0, 1) := by decide +kernel
theorem dX9_feed_43 : decode cX9_feed 43 = .ok (.getfield 48, 3) := by decide +kernel
theorem dX9_feed_46 : decode cX9_feed 46 = .ok (.ireturn, 1) := by decide +kernel
theorem dX9_putBytes_0 : decode cX9_putBytes 0 = .ok (.bipush 24, 2) := by decide +kernel
theorem dX9_putBytes_2 : decode cX9_putBytes 2 = .ok (.istore_n 2, 1) := by decide +kernel
theorem dX9_putBytes_3 : decode cX9_putBytes 3 = .ok (.iload_n 2, 1) := by decide +kernel
theorem dX9_putBytes_4 : decode cX9_putBytes 4 = .ok (.ifCond .lt 51, 3) := by decide +kernel
theorem dX9_putBytes_7 : decode cX9_putBytes 7 = .ok (.aload_n 0, 1) := by decide +kernel
theorem dX9_putBytes_8 : decode cX9_putBytes 8 = .ok (.getfield 48, 3) := by decide +kernel
theorem dX9_putBytes_11 : decode cX9_putBytes 11 = .ok (.ifCond .lt 38, 3) := by decide +kernel
theorem dX9_putBytes_14 : decode cX9_putBytes 14 = .ok (.aload_n 0, 1) := by decide +kernel
theorem dX9_putBytes_15 : decode cX9_putBytes 15 = .ok (.getfield 48, 3) := by decide +kernel
theorem dX9_putBytes_18 : decode cX9_putBytes 18 = .ok (.aload_n 0, 1) := by decide +kernel
theorem dX9_putBytes_19 : decode cX9_putBytes 19 = .ok (.getfield 9, 3) := by decide +kernel
theorem dX9_putBytes_22 : decode cX9_putBytes 22 = .ok (.arraylength, 1) := by decide +kernel
theorem dX9_putBytes_23 : decode cX9_putBytes 23 = .ok (.if_icmp .ge 26, 3) := by decide +kernel
theorem dX9_putBytes_26 : decode cX9_putBytes 26 = .ok (.aload_n 0, 1) := by decide +kernel
theorem dX9_putBytes_27 : decode cX9_putBytes 27 = .ok (.getfield 9, 3) := by decide +kernel
theorem dX9_putBytes_30 : decode cX9_putBytes 30 = .ok (.aload_n 0, 1) := by decide +kernel
theorem dX9_putBytes_31 : decode cX9_putBytes 31 = .ok (.getfield 48, 3) := by decide +kernel
theorem dX9_putBytes_34 : decode cX9_putBytes 34 = .ok (.iload_n 1, 1) := by decide +kernel
theorem dX9_putBytes_35 : decode cX9_putBytes 35 = .ok (.iload_n 2, 1) := by decide +kernel
theorem dX9_putBytes_36 : decode cX9_putBytes 36 = .ok (.iushr, 1) := by decide +kernel
theorem dX9_putBytes_37 : decode cX9_putBytes 37 = .ok (.i2b, 1) := by decide +kernel
theorem dX9_putBytes_38 : decode cX9_putBytes 38 = .ok (.bastore, 1) := by decide +kernel
theorem dX9_putBytes_39 : decode cX9_putBytes 39 = .ok (.aload_n 0, 1) := by decide +kernel
theorem dX9_putBytes_40 : decode cX9_putBytes 40 = .ok (.dup, 1) := by decide +kernel
theorem dX9_putBytes_41 : decode cX9_putBytes 41 = .ok (.getfield 48, 3) := by decide +kernel
theorem dX9_putBytes_44 : decode cX9_putBytes 44 = .ok (.iconst 1, 1) := by decide +kernel
theorem dX9_putBytes_45 : decode cX9_putBytes 45 = .ok (.iadd, 1) := by decide +kernel
theorem dX9_putBytes_46 : decode cX9_putBytes 46 = .ok (.putfield 48, 3) := by decide +kernel
theorem dX9_putBytes_49 : decode cX9_putBytes 49 = .ok (.iinc 2 (-8), 3) := by decide +kernel
theorem dX9_putBytes_52 : decode cX9_putBytes 52 = .ok (.goto (-49), 3) := by decide +kernel
theorem dX9_putBytes_55 : decode cX9_putBytes 55 = .ok (.return_, 1) := by decide +kernel
theorem dX9_world_0 : decode cX9_world 0 = .ok (.iload_n 1, 1) := by decide +kernel
theorem dX9_world_1 : decode cX9_world 1 = .ok (.ifCond .lt 11, 3) := by decide +kernel
theorem dX9_world_4 : decode cX9_world 4 = .ok (.iload_n 1, 1) := by decide +kernel
theorem dX9_world_5 : decode cX9_world 5 = .ok (.aload_n 0, 1) := by decide +kernel
theorem dX9_world_6 : decode cX9_world 6 = .ok (.getfield 48, 3) := by decide +kernel
theorem dX9_world_9 : decode cX9_world 9 = .ok (.if_icmp .le 9, 3) := by decide +kernel
theorem dX9_world_12 : decode cX9_world 12 = .ok (.aload_n 0, 1) := by decide +kernel
theorem dX9_world_13 : decode cX9_world 13 = .ok (.iconst 2, 1) := by decide +kernel
theorem dX9_world_14 : decode cX9_world 14 = .ok (.invokevirtual 56, 3) := by decide +kernel
theorem dX9_world_17 : decode cX9_world 17 = .ok (.ireturn, 1) := by decide +kernel
theorem dX9_world_18 : decode cX9_world 18 = .ok (.aload_n 0, 1) := by decide +kernel
theorem dX9_world_19 : decode cX9_world 19 = .ok (.getfield 23, 3) := by decide +kernel
theorem dX9_world_22 : decode cX9_world 22 = .ok (.aload_n 0, 1) := by decide +kernel
theorem dX9_world_23 : decode cX9_world 23 = .ok (.getfield 9, 3) := by decide +kernel
theorem dX9_world_26 : decode cX9_world 26 = .ok (.iload_n 1, 1) := by decide +kernel
theorem dX9_world_27 : decode cX9_world 27 = .ok (.invokevirtual 60, 3) := by decide +kernel
theorem dX9_world_30 : decode cX9_world 30 = .ok (.istore_n 2, 1) := by decide +kernel
theorem dX9_world_31 : decode cX9_world 31 = .ok (.aload_n 0, 1) := by decide +kernel
theorem dX9_world_32 : decode cX9_world 32 = .ok (.iconst 0, 1) := by decide +kernel
theorem dX9_world_33 : decode cX9_world 33 = .ok (.putfield 48, 3) := by decide +kernel
theorem dX9_world_36 : decode cX9_world 36 = .ok (.aload_n 0, 1) := by decide +kernel
theorem dX9_world_37 : decode cX9_world 37 = .ok (.aload_n 0, 1) := by decide +kernel
theorem dX9_world_38 : decode cX9_world 38 = .ok (.getfield 23, 3) := by decide +kernel
theorem dX9_world_41 : decode cX9_world 41 = .ok (.getfield 64, 3) := by decide +kernel
theorem dX9_world_44 : decode cX9_world 44 = .ok (.putfield 67, 3) := by decide +kernel
theorem dX9_world_47 : decode cX9_world 47 = .ok (.aload_n 0, 1) := by decide +kernel
theorem dX9_world_48 : decode cX9_world 48 = .ok (.aload_n 0, 1) := by decide +kernel
theorem dX9_world_49 : decode cX9_world 49 = .ok (.getfield 23, 3) := by decide +kernel
theorem dX9_world_52 : decode cX9_world 52 = .ok (.getfield 70, 3) := by decide +kernel
theorem dX9_world_55 : decode cX9_world 55 = .ok (.putfield 73, 3) := by decide +kernel
theorem dX9_world_58 : decode cX9_world 58 = .ok (.iload_n 2, 1) := by decide +kernel
theorem dX9_world_59 : decode cX9_world 59 = .ok (.ifCond .ne 9, 3) := by decide +kernel
theorem dX9_world_62 : decode cX9_world 62 = .ok (.aload_n 0, 1) := by decide +kernel
theorem dX9_world_63 : decode cX9_world 63 = .ok (.iconst 4, 1) := by decide +kernel
theorem dX9_world_64 : decode cX9_world 64 = .ok (.invokevirtual 56, 3) := by decide +kernel
theorem dX9_world_67 : decode cX9_world 67 = .ok (.ireturn, 1) := by decide +kernel
theorem dX9_world_68 : decode cX9_world 68 = .ok (.aload_n 0, 1) := by decide +kernel
theorem dX9_world_69 : decode cX9_world 69 = .ok (.aload_n 0, 1) := by decide +kernel
theorem dX9_world_70 : decode cX9_world 70 = .ok (.getfield 23, 3) := by decide +kernel
theorem dX9_world_73 : decode cX9_world 73 = .ok (.aload_n 0, 1) := by decide +kernel
theorem dX9_world_74 : decode cX9_world 74 = .ok (.getfield 16, 3) := by decide +kernel
theorem dX9_world_77 : decode cX9_world 77 = .ok (.invokevirtual 76, 3) := by decide +kernel
theorem dX9_world_80 : decode cX9_world 80 = .ok (.putfield 16, 3) := by decide +kernel
theorem dX9_world_83 : decode cX9_world 83 = .ok (.aload_n 0, 1) := by decide +kernel
theorem dX9_world_84 : decode cX9_world 84 = .ok (.getfield 37, 3) := by decide +kernel
theorem dX9_world_87 : decode cX9_world 87 = .ok (.invokevirtual 80, 3) := by decide +kernel
theorem dX9_world_90 : decode cX9_world 90 = .ok (.aload_n 0, 1) := by decide +kernel
theorem dX9_world_91 : decode cX9_world 91 = .ok (.getfield 44, 3) := by decide +kernel
theorem dX9_world_94 : decode cX9_world 94 = .ok (.invokevirtual 83, 3) := by decide +kernel
theorem dX9_world_97 : decode cX9_world 97 = .ok (.aload_n 0, 1) := by decide +kernel
theorem dX9_world_98 : decode cX9_world 98 = .ok (.aload_n 0, 1) := by decide +kernel
theorem dX9_world_99 : decode cX9_world 99 = .ok (.getfield 16, 3) := by decide +kernel
theorem dX9_world_102 : decode cX9_world 102 = .ok (.getfield 86, 3) := by decide +kernel
theorem dX9_world_105 : decode cX9_world 105 = .ok (.invokevirtual 89, 3) := by decide +kernel
theorem dX9_world_108 : decode cX9_world 108 = .ok (.ireturn, 1) := by decide +kernel
theorem dX9_fault_0 : decode cX9_fault 0 = .ok (.aload_n 0, 1) := by decide +kernel
theorem dX9_fault_1 : decode cX9_fault 1 = .ok (.getfield 67, 3) := by decide +kernel
theorem dX9_fault_4 : decode cX9_fault 4 = .ok (.ireturn, 1) := by decide +kernel
theorem dX9_where_0 : decode cX9_where 0 = .ok (.aload_n 0, 1) := by decide +kernel
theorem dX9_where_1 : decode cX9_where 1 = .ok (.getfield 92, 3) := by decide +kernel
theorem dX9_where_4 : decode cX9_where 4 = .ok (.iconst 4, 1) := by decide +kernel
theorem dX9_where_5 : decode cX9_where 5 = .ok (.if_icmp .ne 10, 3) := by decide +kernel
theorem dX9_where_8 : decode cX9_where 8 = .ok (.aload_n 0, 1) := by decide +kernel
theorem dX9_where_9 : decode cX9_where 9 = .ok (.getfield 73, 3) := by decide +kernel
theorem dX9_where_12 : decode cX9_where 12 = .ok (.goto 4, 3) := by decide +kernel
theorem dX9_where_15 : decode cX9_where 15 = .ok (.iconst (-1), 1) := by decide +kernel
theorem dX9_where_16 : decode cX9_where 16 = .ok (.ireturn, 1) := by decide +kernel
theorem dX9_refuse_0 : decode cX9_refuse 0 = .ok (.aload_n 0, 1) := by decide +kernel
theorem dX9_refuse_1 : decode cX9_refuse 1 = .ok (.iload_n 1, 1) := by decide +kernel
theorem dX9_refuse_2 : decode cX9_refuse 2 = .ok (.putfield 92, 3) := by decide +kernel
theorem dX9_refuse_5 : decode cX9_refuse 5 = .ok (.iconst (-1), 1) := by decide +kernel
theorem dX9_refuse_6 : decode cX9_refuse 6 = .ok (.ireturn, 1) := by decide +kernel
theorem dX9_grant_0 : decode cX9_grant 0 = .ok (.aload_n 0, 1) := by decide +kernel
theorem dX9_grant_1 : decode cX9_grant 1 = .ok (.iconst 0, 1) := by decide +kernel
theorem dX9_grant_2 : decode cX9_grant 2 = .ok (.putfield 92, 3) := by decide +kernel
theorem dX9_grant_5 : decode cX9_grant 5 = .ok (.iload_n 1, 1) := by decide +kernel
theorem dX9_grant_6 : decode cX9_grant 6 = .ok (.ireturn, 1) := by decide +kernel
theorem dX9_refusedBy_0 : decode cX9_refusedBy 0 = .ok (.aload_n 0, 1) := by decide +kernel
theorem dX9_refusedBy_1 : decode cX9_refusedBy 1 = .ok (.iload_n 1, 1) := by decide +kernel
theorem dX9_refusedBy_2 : decode cX9_refusedBy 2 = .ok (.putfield 92, 3) := by decide +kernel
theorem dX9_refusedBy_5 : decode cX9_refusedBy 5 = .ok (.iload_n 1, 1) := by decide +kernel
theorem dX9_refusedBy_6 : decode cX9_refusedBy 6 = .ok (.ifCond .eq 7, 3) := by decide +kernel
theorem dX9_refusedBy_9 : decode cX9_refusedBy 9 = .ok (.iconst 1, 1) := by decide +kernel
theorem dX9_refusedBy_10 : decode cX9_refusedBy 10 = .ok (.goto 4, 3) := by decide +kernel
theorem dX9_refusedBy_13 : decode cX9_refusedBy 13 = .ok (.iconst 0, 1) := by decide +kernel
theorem dX9_refusedBy_14 : decode cX9_refusedBy 14 = .ok (.ireturn, 1) := by decide +kernel
theorem dX9_face_0 : decode cX9_face 0 = .ok (.iload 6, 2) := by decide +kernel
theorem dX9_face_2 : decode cX9_face 2 = .ok (.invokestatic 95, 3) := by decide +kernel
theorem dX9_face_5 : decode cX9_face 5 = .ok (.ifCond .eq 17, 3) := by decide +kernel
theorem dX9_face_8 : decode cX9_face 8 = .ok (.aload_n 0, 1) := by decide +kernel
theorem dX9_face_9 : decode cX9_face 9 = .ok (.iload_n 1, 1) := by decide +kernel
theorem dX9_face_10 : decode cX9_face 10 = .ok (.iload_n 2, 1) := by decide +kernel
theorem dX9_face_11 : decode cX9_face 11 = .ok (.iload_n 3, 1) := by decide +kernel
theorem dX9_face_12 : decode cX9_face 12 = .ok (.iload 4, 2) := by decide +kernel
theorem dX9_face_14 : decode cX9_face 14 = .ok (.iload 5, 2) := by decide +kernel
theorem dX9_face_16 : decode cX9_face 16 = .ok (.invokevirtual 99, 3) := by decide +kernel
theorem dX9_face_19 : decode cX9_face 19 = .ok (.goto 4, 3) := by decide +kernel
theorem dX9_face_22 : decode cX9_face 22 = .ok (.iconst 1, 1) := by decide +kernel
theorem dX9_face_23 : decode cX9_face 23 = .ok (.istore 8, 2) := by decide +kernel
theorem dX9_face_25 : decode cX9_face 25 = .ok (.aload_n 0, 1) := by decide +kernel
theorem dX9_face_26 : decode cX9_face 26 = .ok (.iload 8, 2) := by decide +kernel
theorem dX9_face_28 : decode cX9_face 28 = .ok (.invokevirtual 103, 3) := by decide +kernel
theorem dX9_face_31 : decode cX9_face 31 = .ok (.ifCond .eq 7, 3) := by decide +kernel
theorem dX9_face_34 : decode cX9_face 34 = .ok (.ldc2_w 106, 3) := by decide +kernel
theorem dX9_face_37 : decode cX9_face 37 = .ok (.lreturn, 1) := by decide +kernel
theorem dX9_face_38 : decode cX9_face 38 = .ok (.aload_n 0, 1) := by decide +kernel
theorem dX9_face_39 : decode cX9_face 39 = .ok (.getfield 30, 3) := by decide +kernel
theorem dX9_face_42 : decode cX9_face 42 = .ok (.aload_n 0, 1) := by decide +kernel
theorem dX9_face_43 : decode cX9_face 43 = .ok (.getfield 16, 3) := by decide +kernel
theorem dX9_face_46 : decode cX9_face 46 = .ok (.getfield 108, 3) := by decide +kernel
theorem dX9_face_49 : decode cX9_face 49 = .ok (.iload_n 1, 1) := by decide +kernel
theorem dX9_face_50 : decode cX9_face 50 = .ok (.aaload, 1) := by decide +kernel
theorem dX9_face_51 : decode cX9_face 51 = .ok (.aload_n 0, 1) := by decide +kernel
theorem dX9_face_52 : decode cX9_face 52 = .ok (.getfield 16, 3) := by decide +kernel
theorem dX9_face_55 : decode cX9_face 55 = .ok (.getfield 112, 3) := by decide +kernel
theorem dX9_face_58 : decode cX9_face 58 = .ok (.iload_n 2, 1) := by decide +kernel
theorem dX9_face_59 : decode cX9_face 59 = .ok (.aaload, 1) := by decide +kernel
theorem dX9_face_60 : decode cX9_face 60 = .ok (.iload_n 3, 1) := by decide +kernel
theorem dX9_face_61 : decode cX9_face 61 = .ok (.aload_n 0, 1) := by decide +kernel
theorem dX9_face_62 : decode cX9_face 62 = .ok (.getfield 16, 3) := by decide +kernel
theorem dX9_face_65 : decode cX9_face 65 = .ok (.getfield 116, 3) := by decide +kernel
theorem dX9_face_68 : decode cX9_face 68 = .ok (.iload 4, 2) := by decide +kernel
theorem dX9_face_70 : decode cX9_face 70 = .ok (.aaload, 1) := by decide +kernel
theorem dX9_face_71 : decode cX9_face 71 = .ok (.iload 5, 2) := by decide +kernel
theorem dX9_face_73 : decode cX9_face 73 = .ok (.invokevirtual 120, 3) := by decide +kernel
theorem dX9_face_76 : decode cX9_face 76 = .ok (.pop2, 1) := by decide +kernel
theorem dX9_face_77 : decode cX9_face 77 = .ok (.aload_n 0, 1) := by decide +kernel
theorem dX9_face_78 : decode cX9_face 78 = .ok (.getfield 30, 3) := by decide +kernel
theorem dX9_face_81 : decode cX9_face 81 = .ok (.getfield 124, 3) := by decide +kernel
theorem dX9_face_84 : decode cX9_face 84 = .ok (.iload 6, 2) := by decide +kernel
theorem dX9_face_86 : decode cX9_face 86 = .ok (.laload, 1) := by decide +kernel
theorem dX9_face_87 : decode cX9_face 87 = .ok (.ldc2_w 128, 3) := by decide +kernel
theorem dX9_face_90 : decode cX9_face 90 = .ok (.iload 7, 2) := by decide +kernel
theorem dX9_face_92 : decode cX9_face 92 = .ok (.invokestatic 130, 3) := by decide +kernel
theorem dX9_face_95 : decode cX9_face 95 = .ok (.lreturn, 1) := by decide +kernel
theorem dX9_wet_0 : decode cX9_wet 0 = .ok (.aload_n 0, 1) := by decide +kernel
theorem dX9_wet_1 : decode cX9_wet 1 = .ok (.aload_n 0, 1) := by decide +kernel
theorem dX9_wet_2 : decode cX9_wet 2 = .ok (.iload_n 1, 1) := by decide +kernel
theorem dX9_wet_3 : decode cX9_wet 3 = .ok (.iload_n 2, 1) := by decide +kernel
theorem dX9_wet_4 : decode cX9_wet 4 = .ok (.iload_n 3, 1) := by decide +kernel
theorem dX9_wet_5 : decode cX9_wet 5 = .ok (.iload 4, 2) := by decide +kernel
theorem dX9_wet_7 : decode cX9_wet 7 = .ok (.iload 5, 2) := by decide +kernel
theorem dX9_wet_9 : decode cX9_wet 9 = .ok (.invokevirtual 99, 3) := by decide +kernel
theorem dX9_wet_12 : decode cX9_wet 12 = .ok (.invokevirtual 103, 3) := by decide +kernel
theorem dX9_wet_15 : decode cX9_wet 15 = .ok (.ifCond .eq 7, 3) := by decide +kernel
theorem dX9_wet_18 : decode cX9_wet 18 = .ok (.ldc2_w 106, 3) := by decide +kernel
theorem dX9_wet_21 : decode cX9_wet 21 = .ok (.lreturn, 1) := by decide +kernel
theorem dX9_wet_22 : decode cX9_wet 22 = .ok (.aload_n 0, 1) := by decide +kernel
theorem dX9_wet_23 : decode cX9_wet 23 = .ok (.getfield 30, 3) := by decide +kernel
theorem dX9_wet_26 : decode cX9_wet 26 = .ok (.aload_n 0, 1) := by decide +kernel
theorem dX9_wet_27 : decode cX9_wet 27 = .ok (.getfield 16, 3) := by decide +kernel
theorem dX9_wet_30 : decode cX9_wet 30 = .ok (.getfield 108, 3) := by decide +kernel
theorem dX9_wet_33 : decode cX9_wet 33 = .ok (.iload_n 1, 1) := by decide +kernel
theorem dX9_wet_34 : decode cX9_wet 34 = .ok (.aaload, 1) := by decide +kernel
theorem dX9_wet_35 : decode cX9_wet 35 = .ok (.aload_n 0, 1) := by decide +kernel
theorem dX9_wet_36 : decode cX9_wet 36 = .ok (.getfield 16, 3) := by decide +kernel
theorem dX9_wet_39 : decode cX9_wet 39 = .ok (.getfield 112, 3) := by decide +kernel
theorem dX9_wet_42 : decode cX9_wet 42 = .ok (.iload_n 2, 1) := by decide +kernel
theorem dX9_wet_43 : decode cX9_wet 43 = .ok (.aaload, 1) := by decide +kernel
theorem dX9_wet_44 : decode cX9_wet 44 = .ok (.iload_n 3, 1) := by decide +kernel
theorem dX9_wet_45 : decode cX9_wet 45 = .ok (.aload_n 0, 1) := by decide +kernel
theorem dX9_wet_46 : decode cX9_wet 46 = .ok (.getfield 16, 3) := by decide +kernel
theorem dX9_wet_49 : decode cX9_wet 49 = .ok (.getfield 116, 3) := by decide +kernel
theorem dX9_wet_52 : decode cX9_wet 52 = .ok (.iload 4, 2) := by decide +kernel
theorem dX9_wet_54 : decode cX9_wet 54 = .ok (.aaload, 1) := by decide +kernel
theorem dX9_wet_55 : decode cX9_wet 55 = .ok (.iload 5, 2) := by decide +kernel
theorem dX9_wet_57 : decode cX9_wet 57 = .ok (.invokevirtual 120, 3) := by decide +kernel
theorem dX9_wet_60 : decode cX9_wet 60 = .ok (.ldc2_w 128, 3) := by decide +kernel
theorem dX9_wet_63 : decode cX9_wet 63 = .ok (.iload 6, 2) := by decide +kernel
theorem dX9_wet_65 : decode cX9_wet 65 = .ok (.invokestatic 130, 3) := by decide +kernel
theorem dX9_wet_68 : decode cX9_wet 68 = .ok (.lreturn, 1) := by decide +kernel
theorem dX9_mean_0 : decode cX9_mean 0 = .ok (.aload_n 0, 1) := by decide +kernel
theorem dX9_mean_1 : decode cX9_mean 1 = .ok (.aload_n 0, 1) := by decide +kernel
theorem dX9_mean_2 : decode cX9_mean 2 = .ok (.iload_n 1, 1) := by decide +kernel
theorem dX9_mean_3 : decode cX9_mean 3 = .ok (.iload_n 2, 1) := by decide +kernel
theorem dX9_mean_4 : decode cX9_mean 4 = .ok (.iload_n 3, 1) := by decide +kernel
theorem dX9_mean_5 : decode cX9_mean 5 = .ok (.iload 4, 2) := by decide +kernel
theorem dX9_mean_7 : decode cX9_mean 7 = .ok (.iload 5, 2) := by decide +kernel
theorem dX9_mean_9 : decode cX9_mean 9 = .ok (.invokevirtual 99, 3) := by decide +kernel
theorem dX9_mean_12 : decode cX9_mean 12 = .ok (.invokevirtual 103, 3) := by decide +kernel
theorem dX9_mean_15 : decode cX9_mean 15 = .ok (.ifCond .eq 7, 3) := by decide +kernel
theorem dX9_mean_18 : decode cX9_mean 18 = .ok (.ldc2_w 106, 3) := by decide +kernel
theorem dX9_mean_21 : decode cX9_mean 21 = .ok (.lreturn, 1) := by decide +kernel
theorem dX9_mean_22 : decode cX9_mean 22 = .ok (.aload_n 0, 1) := by decide +kernel
theorem dX9_mean_23 : decode cX9_mean 23 = .ok (.getfield 30, 3) := by decide +kernel
theorem dX9_mean_26 : decode cX9_mean 26 = .ok (.aload_n 0, 1) := by decide +kernel
theorem dX9_mean_27 : decode cX9_mean 27 = .ok (.getfield 16, 3) := by decide +kernel
theorem dX9_mean_30 : decode cX9_mean 30 = .ok (.getfield 108, 3) := by decide +kernel
theorem dX9_mean_33 : decode cX9_mean 33 = .ok (.iload_n 1, 1) := by decide +kernel
theorem dX9_mean_34 : decode cX9_mean 34 = .ok (.aaload, 1) := by decide +kernel
theorem dX9_mean_35 : decode cX9_mean 35 = .ok (.aload_n 0, 1) := by decide +kernel
theorem dX9_mean_36 : decode cX9_mean 36 = .ok (.getfield 16, 3) := by decide +kernel
theorem dX9_mean_39 : decode cX9_mean 39 = .ok (.getfield 112, 3) := by decide +kernel
theorem dX9_mean_42 : decode cX9_mean 42 = .ok (.iload_n 2, 1) := by decide +kernel
theorem dX9_mean_43 : decode cX9_mean 43 = .ok (.aaload, 1) := by decide +kernel
theorem dX9_mean_44 : decode cX9_mean 44 = .ok (.iload_n 3, 1) := by decide +kernel
theorem dX9_mean_45 : decode cX9_mean 45 = .ok (.aload_n 0, 1) := by decide +kernel
theorem dX9_mean_46 : decode cX9_mean 46 = .ok (.getfield 16, 3) := by decide +kernel
theorem dX9_mean_49 : decode cX9_mean 49 = .ok (.getfield 116, 3) := by decide +kernel
theorem dX9_mean_52 : decode cX9_mean 52 = .ok (.iload 4, 2) := by decide +kernel
theorem dX9_mean_54 : decode cX9_mean 54 = .ok (.aaload, 1) := by decide +kernel
theorem dX9_mean_55 : decode cX9_mean 55 = .ok (.iload 5, 2) := by decide +kernel
theorem dX9_mean_57 : decode cX9_mean 57 = .ok (.invokevirtual 120, 3) := by decide +kernel
theorem dX9_mean_60 : decode cX9_mean 60 = .ok (.lstore 7, 2) := by decide +kernel
theorem dX9_mean_62 : decode cX9_mean 62 = .ok (.lload 7, 2) := by decide +kernel
theorem dX9_mean_64 : decode cX9_mean 64 = .ok (.aload_n 0, 1) := by decide +kernel
theorem dX9_mean_65 : decode cX9_mean 65 = .ok (.getfield 16, 3) := by decide +kernel
theorem dX9_mean_68 : decode cX9_mean 68 = .ok (.getfield 116, 3) := by decide +kernel
theorem dX9_mean_71 : decode cX9_mean 71 = .ok (.iload 4, 2) := by decide +kernel
theorem dX9_mean_73 : decode cX9_mean 73 = .ok (.aaload, 1) := by decide +kernel
theorem dX9_mean_74 : decode cX9_mean 74 = .ok (.getfield 134, 3) := by decide +kernel
theorem dX9_mean_77 : decode cX9_mean 77 = .ok (.i2l, 1) := by decide +kernel
theorem dX9_mean_78 : decode cX9_mean 78 = .ok (.lmul, 1) := by decide +kernel
theorem dX9_mean_79 : decode cX9_mean 79 = .ok (.ldc2_w 139, 3) := by decide +kernel
theorem dX9_mean_82 : decode cX9_mean 82 = .ok (.iload 6, 2) := by decide +kernel
theorem dX9_mean_84 : decode cX9_mean 84 = .ok (.invokestatic 130, 3) := by decide +kernel
theorem dX9_mean_87 : decode cX9_mean 87 = .ok (.lreturn, 1) := by decide +kernel
theorem dX9_minutes_0 : decode cX9_minutes 0 = .ok (.aload_n 0, 1) := by decide +kernel
theorem dX9_minutes_1 : decode cX9_minutes 1 = .ok (.getfield 16, 3) := by decide +kernel
theorem dX9_minutes_4 : decode cX9_minutes 4 = .ok (.iload_n 1, 1) := by decide +kernel
theorem dX9_minutes_5 : decode cX9_minutes 5 = .ok (.invokevirtual 141, 3) := by decide +kernel
theorem dX9_minutes_8 : decode cX9_minutes 8 = .ok (.ifCond .eq 14, 3) := by decide +kernel
theorem dX9_minutes_11 : decode cX9_minutes 11 = .ok (.aload_n 0, 1) := by decide +kernel
theorem dX9_minutes_12 : decode cX9_minutes 12 = .ok (.getfield 16, 3) := by decide +kernel
theorem dX9_minutes_15 : decode cX9_minutes 15 = .ok (.iload_n 2, 1) := by decide +kernel
theorem dX9_minutes_16 : decode cX9_minutes 16 = .ok (.invokevirtual 144, 3) := by decide +kernel
theorem dX9_minutes_19 : decode cX9_minutes 19 = .ok (.ifCond .ne 9, 3) := by decide +kernel
theorem dX9_minutes_22 : decode cX9_minutes 22 = .ok (.aload_n 0, 1) := by decide +kernel
theorem dX9_minutes_23 : decode cX9_minutes 23 = .ok (.iconst 1, 1) := by decide +kernel
theorem dX9_minutes_24 : decode cX9_minutes 24 = .ok (.invokevirtual 56, 3) := by decide +kernel
theorem dX9_minutes_27 : decode cX9_minutes 27 = .ok (.ireturn, 1) := by decide +kernel
theorem dX9_minutes_28 : decode cX9_minutes 28 = .ok (.aload_n 0, 1) := by decide +kernel
theorem dX9_minutes_29 : decode cX9_minutes 29 = .ok (.getfield 16, 3) := by decide +kernel
theorem dX9_minutes_32 : decode cX9_minutes 32 = .ok (.getfield 108, 3) := by decide +kernel
theorem dX9_minutes_35 : decode cX9_minutes 35 = .ok (.iload_n 1, 1) := by decide +kernel
theorem dX9_minutes_36 : decode cX9_minutes 36 = .ok (.aaload, 1) := by decide +kernel
theorem dX9_minutes_37 : decode cX9_minutes 37 = .ok (.iload_n 3, 1) := by decide +kernel
theorem dX9_minutes_38 : decode cX9_minutes 38 = .ok (.invokevirtual 147, 3) := by decide +kernel
theorem dX9_minutes_41 : decode cX9_minutes 41 = .ok (.ifCond .ne 9, 3) := by decide +kernel
theorem dX9_minutes_44 : decode cX9_minutes 44 = .ok (.aload_n 0, 1) := by decide +kernel
theorem dX9_minutes_45 : decode cX9_minutes 45 = .ok (.iconst 2, 1) := by decide +kernel
theorem dX9_minutes_46 : decode cX9_minutes 46 = .ok (.invokevirtual 56, 3) := by decide +kernel
theorem dX9_minutes_49 : decode cX9_minutes 49 = .ok (.ireturn, 1) := by decide +kernel
theorem dX9_minutes_50 : decode cX9_minutes 50 = .ok (.aload_n 0, 1) := by decide +kernel
theorem dX9_minutes_51 : decode cX9_minutes 51 = .ok (.aload_n 0, 1) := by decide +kernel
theorem dX9_minutes_52 : decode cX9_minutes 52 = .ok (.getfield 16, 3) := by decide +kernel
theorem dX9_minutes_55 : decode cX9_minutes 55 = .ok (.getfield 112, 3) := by decide +kernel
theorem dX9_minutes_58 : decode cX9_minutes 58 = .ok (.iload_n 2, 1) := by decide +kernel
theorem dX9_minutes_59 : decode cX9_minutes 59 = .ok (.aaload, 1) := by decide +kernel
theorem dX9_minutes_60 : decode cX9_minutes 60 = .ok (.iload_n 3, 1) := by decide +kernel
theorem dX9_minutes_61 : decode cX9_minutes 61 = .ok (.invokevirtual 152, 3) := by decide +kernel
theorem dX9_minutes_64 : decode cX9_minutes 64 = .ok (.invokevirtual 89, 3) := by decide +kernel
theorem dX9_minutes_67 : decode cX9_minutes 67 = .ok (.ireturn, 1) := by decide +kernel
theorem dX9_air_0 : decode cX9_air 0 = .ok (.aload_n 0, 1) := by decide +kernel
theorem dX9_air_1 : decode cX9_air 1 = .ok (.getfield 16, 3) := by decide +kernel
theorem dX9_air_4 : decode cX9_air 4 = .ok (.iload_n 1, 1) := by decide +kernel
theorem dX9_air_5 : decode cX9_air 5 = .ok (.invokevirtual 144, 3) := by decide +kernel
theorem dX9_air_8 : decode cX9_air 8 = .ok (.ifCond .eq 21, 3) := by decide +kernel
theorem dX9_air_11 : decode cX9_air 11 = .ok (.iload_n 2, 1) := by decide +kernel
theorem dX9_air_12 : decode cX9_air 12 = .ok (.invokestatic 157, 3) := by decide +kernel
theorem dX9_air_15 : decode cX9_air 15 = .ok (.ifCond .eq 14, 3) := by decide +kernel
theorem dX9_air_18 : decode cX9_air 18 = .ok (.aload_n 0, 1) := by decide +kernel
theorem dX9_air_19 : decode cX9_air 19 = .ok (.getfield 16, 3) := by decide +kernel
theorem dX9_air_22 : decode cX9_air 22 = .ok (.iload_n 3, 1) := by decide +kernel
theorem dX9_air_23 : decode cX9_air 23 = .ok (.invokevirtual 160, 3) := by decide +kernel
theorem dX9_air_26 : decode cX9_air 26 = .ok (.ifCond .ne 11, 3) := by decide +kernel
theorem dX9_air_29 : decode cX9_air 29 = .ok (.aload_n 0, 1) := by decide +kernel
theorem dX9_air_30 : decode cX9_air 30 = .ok (.iconst 1, 1) := by decide +kernel
theorem dX9_air_31 : decode cX9_air 31 = .ok (.putfield 92, 3) := by decide +kernel
theorem dX9_air_34 : decode cX9_air 34 = .ok (.bipush (-100), 2) := by decide +kernel
theorem dX9_air_36 : decode cX9_air 36 = .ok (.ireturn, 1) := by decide +kernel
theorem dX9_air_37 : decode cX9_air 37 = .ok (.aload_n 0, 1) := by decide +kernel
theorem dX9_air_38 : decode cX9_air 38 = .ok (.aload_n 0, 1) := by decide +kernel
theorem dX9_air_39 : decode cX9_air 39 = .ok (.getfield 16, 3) := by decide +kernel
theorem dX9_air_42 : decode cX9_air 42 = .ok (.getfield 112, 3) := by decide +kernel
theorem dX9_air_45 : decode cX9_air 45 = .ok (.iload_n 1, 1) := by decide +kernel
theorem dX9_air_46 : decode cX9_air 46 = .ok (.aaload, 1) := by decide +kernel
theorem dX9_air_47 : decode cX9_air 47 = .ok (.iload_n 2, 1) := by decide +kernel
theorem dX9_air_48 : decode cX9_air 48 = .ok (.aload_n 0, 1) := by decide +kernel
theorem dX9_air_49 : decode cX9_air 49 = .ok (.getfield 16, 3) := by decide +kernel
theorem dX9_air_52 : decode cX9_air 52 = .ok (.getfield 116, 3) := by decide +kernel
theorem dX9_air_55 : decode cX9_air 55 = .ok (.iload_n 3, 1) := by decide +kernel
theorem dX9_air_56 : decode cX9_air 56 = .ok (.aaload, 1) := by decide +kernel
theorem dX9_air_57 : decode cX9_air 57 = .ok (.invokevirtual 163, 3) := by decide +kernel
theorem dX9_air_60 : decode cX9_air 60 = .ok (.invokevirtual 89, 3) := by decide +kernel
theorem dX9_air_63 : decode cX9_air 63 = .ok (.ireturn, 1) := by decide +kernel
theorem dX9_held_0 : decode cX9_held 0 = .ok (.aload_n 0, 1) := by decide +kernel
theorem dX9_held_1 : decode cX9_held 1 = .ok (.aload_n 0, 1) := by decide +kernel
theorem dX9_held_2 : decode cX9_held 2 = .ok (.iload_n 1, 1) := by decide +kernel
theorem dX9_held_3 : decode cX9_held 3 = .ok (.iload_n 2, 1) := by decide +kernel
theorem dX9_held_4 : decode cX9_held 4 = .ok (.iload_n 3, 1) := by decide +kernel
theorem dX9_held_5 : decode cX9_held 5 = .ok (.iload 4, 2) := by decide +kernel
theorem dX9_held_7 : decode cX9_held 7 = .ok (.iload 5, 2) := by decide +kernel
theorem dX9_held_9 : decode cX9_held 9 = .ok (.invokevirtual 99, 3) := by decide +kernel
theorem dX9_held_12 : decode cX9_held 12 = .ok (.invokevirtual 103, 3) := by decide +kernel
theorem dX9_held_15 : decode cX9_held 15 = .ok (.ifCond .eq 5, 3) := by decide +kernel
theorem dX9_held_18 : decode cX9_held 18 = .ok (.iconst (-1), 1) := by decide +kernel
theorem dX9_held_19 : decode cX9_held 19 = .ok (.ireturn, 1) := by decide +kernel
theorem dX9_held_20 : decode cX9_held 20 = .ok (.aload_n 0, 1) := by decide +kernel
theorem dX9_held_21 : decode cX9_held 21 = .ok (.getfield 16, 3) := by decide +kernel
theorem dX9_held_24 : decode cX9_held 24 = .ok (.getfield 108, 3) := by decide +kernel
theorem dX9_held_27 : decode cX9_held 27 = .ok (.iload_n 1, 1) := by decide +kernel
theorem dX9_held_28 : decode cX9_held 28 = .ok (.aaload, 1) := by decide +kernel
theorem dX9_held_29 : decode cX9_held 29 = .ok (.getfield 167, 3) := by decide +kernel
theorem dX9_held_32 : decode cX9_held 32 = .ok (.iconst 3, 1) := by decide +kernel
theorem dX9_held_33 : decode cX9_held 33 = .ok (.if_icmp .eq 6, 3) := by decide +kernel
theorem dX9_held_36 : decode cX9_held 36 = .ok (.bipush (-2), 2) := by decide +kernel
theorem dX9_held_38 : decode cX9_held 38 = .ok (.ireturn, 1) := by decide +kernel
theorem dX9_held_39 : decode cX9_held 39 = .ok (.aload_n 0, 1) := by decide +kernel
theorem dX9_held_40 : decode cX9_held 40 = .ok (.getfield 30, 3) := by decide +kernel
theorem dX9_held_43 : decode cX9_held 43 = .ok (.aload_n 0, 1) := by decide +kernel
theorem dX9_held_44 : decode cX9_held 44 = .ok (.getfield 16, 3) := by decide +kernel
theorem dX9_held_47 : decode cX9_held 47 = .ok (.getfield 112, 3) := by decide +kernel
theorem dX9_held_50 : decode cX9_held 50 = .ok (.iload_n 2, 1) := by decide +kernel
theorem dX9_held_51 : decode cX9_held 51 = .ok (.aaload, 1) := by decide +kernel
theorem dX9_held_52 : decode cX9_held 52 = .ok (.iload_n 3, 1) := by decide +kernel
theorem dX9_held_53 : decode cX9_held 53 = .ok (.aload_n 0, 1) := by decide +kernel
theorem dX9_held_54 : decode cX9_held 54 = .ok (.getfield 16, 3) := by decide +kernel
theorem dX9_held_57 : decode cX9_held 57 = .ok (.getfield 116, 3) := by decide +kernel
theorem dX9_held_60 : decode cX9_held 60 = .ok (.iload 4, 2) := by decide +kernel
theorem dX9_held_62 : decode cX9_held 62 = .ok (.aaload, 1) := by decide +kernel
theorem dX9_held_63 : decode cX9_held 63 = .ok (.iload 5, 2) := by decide +kernel
theorem dX9_held_65 : decode cX9_held 65 = .ok (.invokevirtual 170, 3) := by decide +kernel
theorem dX9_held_68 : decode cX9_held 68 = .ok (.aload_n 0, 1) := by decide +kernel
theorem dX9_held_69 : decode cX9_held 69 = .ok (.getfield 30, 3) := by decide +kernel
theorem dX9_held_72 : decode cX9_held 72 = .ok (.aload_n 0, 1) := by decide +kernel
theorem dX9_held_73 : decode cX9_held 73 = .ok (.getfield 16, 3) := by decide +kernel
theorem dX9_held_76 : decode cX9_held 76 = .ok (.getfield 108, 3) := by decide +kernel
theorem dX9_held_79 : decode cX9_held 79 = .ok (.iload_n 1, 1) := by decide +kernel
theorem dX9_held_80 : decode cX9_held 80 = .ok (.aaload, 1) := by decide +kernel
theorem dX9_held_81 : decode cX9_held 81 = .ok (.invokevirtual 174, 3) := by decide +kernel
theorem dX9_held_84 : decode cX9_held 84 = .ok (.ifCond .eq 7, 3) := by decide +kernel
theorem dX9_held_87 : decode cX9_held 87 = .ok (.iconst 1, 1) := by decide +kernel
theorem dX9_held_88 : decode cX9_held 88 = .ok (.goto 4, 3) := by decide +kernel
theorem dX9_held_91 : decode cX9_held 91 = .ok (.iconst 0, 1) := by decide +kernel
theorem dX9_held_92 : decode cX9_held 92 = .ok (.ireturn, 1) := by decide +kernel
theorem dX9_best_0 : decode cX9_best 0 = .ok (.aload_n 0, 1) := by decide +kernel
theorem dX9_best_1 : decode cX9_best 1 = .ok (.aload_n 0, 1) := by decide +kernel
theorem dX9_best_2 : decode cX9_best 2 = .ok (.iload_n 1, 1) := by decide +kernel
theorem dX9_best_3 : decode cX9_best 3 = .ok (.iload_n 2, 1) := by decide +kernel
theorem dX9_best_4 : decode cX9_best 4 = .ok (.iload_n 3, 1) := by decide +kernel
theorem dX9_best_5 : decode cX9_best 5 = .ok (.iload 4, 2) := by decide +kernel
theorem dX9_best_7 : decode cX9_best 7 = .ok (.invokevirtual 178, 3) := by decide +kernel
theorem dX9_best_10 : decode cX9_best 10 = .ok (.invokevirtual 103, 3) := by decide +kernel
theorem dX9_best_13 : decode cX9_best 13 = .ok (.ifCond .eq 5, 3) := by decide +kernel
theorem dX9_best_16 : decode cX9_best 16 = .ok (.iconst (-1), 1) := by decide +kernel
theorem dX9_best_17 : decode cX9_best 17 = .ok (.ireturn, 1) := by decide +kernel
theorem dX9_best_18 : decode cX9_best 18 = .ok (.aload_n 0, 1) := by decide +kernel
theorem dX9_best_19 : decode cX9_best 19 = .ok (.getfield 30, 3) := by decide +kernel
theorem dX9_best_22 : decode cX9_best 22 = .ok (.aload_n 0, 1) := by decide +kernel
theorem dX9_best_23 : decode cX9_best 23 = .ok (.getfield 16, 3) := by decide +kernel
theorem dX9_best_26 : decode cX9_best 26 = .ok (.getfield 108, 3) := by decide +kernel
theorem dX9_best_29 : decode cX9_best 29 = .ok (.iload_n 1, 1) := by decide +kernel
theorem dX9_best_30 : decode cX9_best 30 = .ok (.aaload, 1) := by decide +kernel
theorem dX9_best_31 : decode cX9_best 31 = .ok (.aload_n 0, 1) := by decide +kernel
theorem dX9_best_32 : decode cX9_best 32 = .ok (.getfield 16, 3) := by decide +kernel
theorem dX9_best_35 : decode cX9_best 35 = .ok (.getfield 112, 3) := by decide +kernel
theorem dX9_best_38 : decode cX9_best 38 = .ok (.iload_n 2, 1) := by decide +kernel
theorem dX9_best_39 : decode cX9_best 39 = .ok (.aaload, 1) := by decide +kernel
theorem dX9_best_40 : decode cX9_best 40 = .ok (.iload_n 3, 1) := by decide +kernel
theorem dX9_best_41 : decode cX9_best 41 = .ok (.aload_n 0, 1) := by decide +kernel
theorem dX9_best_42 : decode cX9_best 42 = .ok (.getfield 16, 3) := by decide +kernel
theorem dX9_best_45 : decode cX9_best 45 = .ok (.getfield 116, 3) := by decide +kernel
theorem dX9_best_48 : decode cX9_best 48 = .ok (.iload 4, 2) := by decide +kernel
theorem dX9_best_50 : decode cX9_best 50 = .ok (.aaload, 1) := by decide +kernel
theorem dX9_best_51 : decode cX9_best 51 = .ok (.invokevirtual 182, 3) := by decide +kernel
theorem dX9_best_54 : decode cX9_best 54 = .ok (.ireturn, 1) := by decide +kernel
theorem dX9_saves_0 : decode cX9_saves 0 = .ok (.aload_n 0, 1) := by decide +kernel
theorem dX9_saves_1 : decode cX9_saves 1 = .ok (.aload_n 0, 1) := by decide +kernel
theorem dX9_saves_2 : decode cX9_saves 2 = .ok (.iload_n 1, 1) := by decide +kernel
theorem dX9_saves_3 : decode cX9_saves 3 = .ok (.iload_n 2, 1) := by decide +kernel
theorem dX9_saves_4 : decode cX9_saves 4 = .ok (.iload_n 3, 1) := by decide +kernel
theorem dX9_saves_5 : decode cX9_saves 5 = .ok (.iload 4, 2) := by decide +kernel
theorem dX9_saves_7 : decode cX9_saves 7 = .ok (.invokevirtual 178, 3) := by decide +kernel
theorem dX9_saves_10 : decode cX9_saves 10 = .ok (.invokevirtual 103, 3) := by decide +kernel
theorem dX9_saves_13 : decode cX9_saves 13 = .ok (.ifCond .eq 7, 3) := by decide +kernel
theorem dX9_saves_16 : decode cX9_saves 16 = .ok (.ldc2_w 106, 3) := by decide +kernel
theorem dX9_saves_19 : decode cX9_saves 19 = .ok (.lreturn, 1) := by decide +kernel
theorem dX9_saves_20 : decode cX9_saves 20 = .ok (.aload_n 0, 1) := by decide +kernel
theorem dX9_saves_21 : decode cX9_saves 21 = .ok (.getfield 16, 3) := by decide +kernel
theorem dX9_saves_24 : decode cX9_saves 24 = .ok (.getfield 108, 3) := by decide +kernel
theorem dX9_saves_27 : decode cX9_saves 27 = .ok (.iload_n 1, 1) := by decide +kernel
theorem dX9_saves_28 : decode cX9_saves 28 = .ok (.aaload, 1) := by decide +kernel
theorem dX9_saves_29 : decode cX9_saves 29 = .ok (.astore 6, 2) := by decide +kernel
theorem dX9_saves_31 : decode cX9_saves 31 = .ok (.aload_n 0, 1) := by decide +kernel
theorem dX9_saves_32 : decode cX9_saves 32 = .ok (.getfield 30, 3) := by decide +kernel
theorem dX9_saves_35 : decode cX9_saves 35 = .ok (.aload 6, 2) := by decide +kernel
theorem dX9_saves_37 : decode cX9_saves 37 = .ok (.aload_n 0, 1) := by decide +kernel
theorem dX9_saves_38 : decode cX9_saves 38 = .ok (.getfield 16, 3) := by decide +kernel
theorem dX9_saves_41 : decode cX9_saves 41 = .ok (.getfield 112, 3) := by decide +kernel
theorem dX9_saves_44 : decode cX9_saves 44 = .ok (.iload_n 2, 1) := by decide +kernel
theorem dX9_saves_45 : decode cX9_saves 45 = .ok (.aaload, 1) := by decide +kernel
theorem dX9_saves_46 : decode cX9_saves 46 = .ok (.iload_n 3, 1) := by decide +kernel
theorem dX9_saves_47 : decode cX9_saves 47 = .ok (.aload_n 0, 1) := by decide +kernel
theorem dX9_saves_48 : decode cX9_saves 48 = .ok (.getfield 16, 3) := by decide +kernel
theorem dX9_saves_51 : decode cX9_saves 51 = .ok (.getfield 116, 3) := by decide +kernel
theorem dX9_saves_54 : decode cX9_saves 54 = .ok (.iload 4, 2) := by decide +kernel
theorem dX9_saves_56 : decode cX9_saves 56 = .ok (.aaload, 1) := by decide +kernel
theorem dX9_saves_57 : decode cX9_saves 57 = .ok (.aload 6, 2) := by decide +kernel
theorem dX9_saves_59 : decode cX9_saves 59 = .ok (.getfield 186, 3) := by decide +kernel
theorem dX9_saves_62 : decode cX9_saves 62 = .ok (.invokevirtual 120, 3) := by decide +kernel
theorem dX9_saves_65 : decode cX9_saves 65 = .ok (.lstore 7, 2) := by decide +kernel
theorem dX9_saves_67 : decode cX9_saves 67 = .ok (.lload 7, 2) := by decide +kernel
theorem dX9_saves_69 : decode cX9_saves 69 = .ok (.aload_n 0, 1) := by decide +kernel
theorem dX9_saves_70 : decode cX9_saves 70 = .ok (.getfield 30, 3) := by decide +kernel
theorem dX9_saves_73 : decode cX9_saves 73 = .ok (.aload 6, 2) := by decide +kernel
theorem dX9_saves_75 : decode cX9_saves 75 = .ok (.aload_n 0, 1) := by decide +kernel
theorem dX9_saves_76 : decode cX9_saves 76 = .ok (.getfield 16, 3) := by decide +kernel
theorem dX9_saves_79 : decode cX9_saves 79 = .ok (.getfield 112, 3) := by decide +kernel
theorem dX9_saves_82 : decode cX9_saves 82 = .ok (.iload_n 2, 1) := by decide +kernel
theorem dX9_saves_83 : decode cX9_saves 83 = .ok (.aaload, 1) := by decide +kernel
theorem dX9_saves_84 : decode cX9_saves 84 = .ok (.iload_n 3, 1) := by decide +kernel
theorem dX9_saves_85 : decode cX9_saves 85 = .ok (.aload_n 0, 1) := by decide +kernel
theorem dX9_saves_86 : decode cX9_saves 86 = .ok (.getfield 16, 3) := by decide +kernel
theorem dX9_saves_89 : decode cX9_saves 89 = .ok (.getfield 116, 3) := by decide +kernel
theorem dX9_saves_92 : decode cX9_saves 92 = .ok (.iload 4, 2) := by decide +kernel
theorem dX9_saves_94 : decode cX9_saves 94 = .ok (.aaload, 1) := by decide +kernel
theorem dX9_saves_95 : decode cX9_saves 95 = .ok (.invokevirtual 189, 3) := by decide +kernel
theorem dX9_saves_98 : decode cX9_saves 98 = .ok (.lsub, 1) := by decide +kernel
theorem dX9_saves_99 : decode cX9_saves 99 = .ok (.ldc2_w 128, 3) := by decide +kernel
theorem dX9_saves_102 : decode cX9_saves 102 = .ok (.iload 5, 2) := by decide +kernel
theorem dX9_saves_104 : decode cX9_saves 104 = .ok (.invokestatic 130, 3) := by decide +kernel
theorem dX9_saves_107 : decode cX9_saves 107 = .ok (.lreturn, 1) := by decide +kernel
theorem dX9_worst_0 : decode cX9_worst 0 = .ok (.aload_n 0, 1) := by decide +kernel
theorem dX9_worst_1 : decode cX9_worst 1 = .ok (.aload_n 0, 1) := by decide +kernel
theorem dX9_worst_2 : decode cX9_worst 2 = .ok (.iload_n 1, 1) := by decide +kernel
theorem dX9_worst_3 : decode cX9_worst 3 = .ok (.iload_n 2, 1) := by decide +kernel
theorem dX9_worst_4 : decode cX9_worst 4 = .ok (.iload_n 3, 1) := by decide +kernel
theorem dX9_worst_5 : decode cX9_worst 5 = .ok (.iload 4, 2) := by decide +kernel
theorem dX9_worst_7 : decode cX9_worst 7 = .ok (.invokevirtual 178, 3) := by decide +kernel
theorem dX9_worst_10 : decode cX9_worst 10 = .ok (.invokevirtual 103, 3) := by decide +kernel
theorem dX9_worst_13 : decode cX9_worst 13 = .ok (.ifCond .eq 5, 3) := by decide +kernel
theorem dX9_worst_16 : decode cX9_worst 16 = .ok (.iconst (-1), 1) := by decide +kernel
theorem dX9_worst_17 : decode cX9_worst 17 = .ok (.ireturn, 1) := by decide +kernel
theorem dX9_worst_18 : decode cX9_worst 18 = .ok (.aload_n 0, 1) := by decide +kernel
theorem dX9_worst_19 : decode cX9_worst 19 = .ok (.getfield 30, 3) := by decide +kernel
theorem dX9_worst_22 : decode cX9_worst 22 = .ok (.aload_n 0, 1) := by decide +kernel
theorem dX9_worst_23 : decode cX9_worst 23 = .ok (.getfield 16, 3) := by decide +kernel
theorem dX9_worst_26 : decode cX9_worst 26 = .ok (.getfield 108, 3) := by decide +kernel
theorem dX9_worst_29 : decode cX9_worst 29 = .ok (.iload_n 1, 1) := by decide +kernel
theorem dX9_worst_30 : decode cX9_worst 30 = .ok (.aaload, 1) := by decide +kernel
theorem dX9_worst_31 : decode cX9_worst 31 = .ok (.aload_n 0, 1) := by decide +kernel
theorem dX9_worst_32 : decode cX9_worst 32 = .ok (.getfield 16, 3) := by decide +kernel
theorem dX9_worst_35 : decode cX9_worst 35 = .ok (.getfield 112, 3) := by decide +kernel
theorem dX9_worst_38 : decode cX9_worst 38 = .ok (.iload_n 2, 1) := by decide +kernel
theorem dX9_worst_39 : decode cX9_worst 39 = .ok (.aaload, 1) := by decide +kernel
theorem dX9_worst_40 : decode cX9_worst 40 = .ok (.iload_n 3, 1) := by decide +kernel
theorem dX9_worst_41 : decode cX9_worst 41 = .ok (.aload_n 0, 1) := by decide +kernel
theorem dX9_worst_42 : decode cX9_worst 42 = .ok (.getfield 16, 3) := by decide +kernel
theorem dX9_worst_45 : decode cX9_worst 45 = .ok (.getfield 116, 3) := by decide +kernel
theorem dX9_worst_48 : decode cX9_worst 48 = .ok (.iload 4, 2) := by decide +kernel
theorem dX9_worst_50 : decode cX9_worst 50 = .ok (.aaload, 1) := by decide +kernel
theorem dX9_worst_51 : decode cX9_worst 51 = .ok (.invokevirtual 193, 3) := by decide +kernel
theorem dX9_worst_54 : decode cX9_worst 54 = .ok (.ireturn, 1) := by decide +kernel
theorem dX9_even_0 : decode cX9_even 0 = .ok (.aload_n 0, 1) := by decide +kernel
theorem dX9_even_1 : decode cX9_even 1 = .ok (.aload_n 0, 1) := by decide +kernel
theorem dX9_even_2 : decode cX9_even 2 = .ok (.iload_n 1, 1) := by decide +kernel
theorem dX9_even_3 : decode cX9_even 3 = .ok (.iload_n 2, 1) := by decide +kernel
theorem dX9_even_4 : decode cX9_even 4 = .ok (.iload_n 3, 1) := by decide +kernel
theorem dX9_even_5 : decode cX9_even 5 = .ok (.iload 4, 2) := by decide +kernel
theorem dX9_even_7 : decode cX9_even 7 = .ok (.invokevirtual 178, 3) := by decide +kernel
theorem dX9_even_10 : decode cX9_even 10 = .ok (.invokevirtual 103, 3) := by decide +kernel
theorem dX9_even_13 : decode cX9_even 13 = .ok (.ifCond .eq 5, 3) := by decide +kernel
theorem dX9_even_16 : decode cX9_even 16 = .ok (.iconst (-1), 1) := by decide +kernel
theorem dX9_even_17 : decode cX9_even 17 = .ok (.ireturn, 1) := by decide +kernel
theorem dX9_even_18 : decode cX9_even 18 = .ok (.aload_n 0, 1) := by decide +kernel
theorem dX9_even_19 : decode cX9_even 19 = .ok (.getfield 16, 3) := by decide +kernel
theorem dX9_even_22 : decode cX9_even 22 = .ok (.getfield 108, 3) := by decide +kernel
theorem dX9_even_25 : decode cX9_even 25 = .ok (.iload_n 1, 1) := by decide +kernel
theorem dX9_even_26 : decode cX9_even 26 = .ok (.aaload, 1) := by decide +kernel
theorem dX9_even_27 : decode cX9_even 27 = .ok (.astore 5, 2) := by decide +kernel
theorem dX9_even_29 : decode cX9_even 29 = .ok (.aload_n 0, 1) := by decide +kernel
theorem dX9_even_30 : decode cX9_even 30 = .ok (.getfield 30, 3) := by decide +kernel
theorem dX9_even_33 : decode cX9_even 33 = .ok (.aload 5, 2) := by decide +kernel
theorem dX9_even_35 : decode cX9_even 35 = .ok (.aload_n 0, 1) := by decide +kernel
theorem dX9_even_36 : decode cX9_even 36 = .ok (.getfield 16, 3) := by decide +kernel
theorem dX9_even_39 : decode cX9_even 39 = .ok (.getfield 112, 3) := by decide +kernel
theorem dX9_even_42 : decode cX9_even 42 = .ok (.iload_n 2, 1) := by decide +kernel
theorem dX9_even_43 : decode cX9_even 43 = .ok (.aaload, 1) := by decide +kernel
theorem dX9_even_44 : decode cX9_even 44 = .ok (.iload_n 3, 1) := by decide +kernel
theorem dX9_even_45 : decode cX9_even 45 = .ok (.aload_n 0, 1) := by decide +kernel
theorem dX9_even_46 : decode cX9_even 46 = .ok (.getfield 16, 3) := by decide +kernel
theorem dX9_even_49 : decode cX9_even 49 = .ok (.getfield 116, 3) := by decide +kernel
theorem dX9_even_52 : decode cX9_even 52 = .ok (.iload 4, 2) := by decide +kernel
theorem dX9_even_54 : decode cX9_even 54 = .ok (.aaload, 1) := by decide +kernel
theorem dX9_even_55 : decode cX9_even 55 = .ok (.invokevirtual 193, 3) := by decide +kernel
theorem dX9_even_58 : decode cX9_even 58 = .ok (.istore 6, 2) := by decide +kernel
theorem dX9_even_60 : decode cX9_even 60 = .ok (.aload_n 0, 1) := by decide +kernel
theorem dX9_even_61 : decode cX9_even 61 = .ok (.getfield 30, 3) := by decide +kernel
theorem dX9_even_64 : decode cX9_even 64 = .ok (.aload 5, 2) := by decide +kernel
theorem dX9_even_66 : decode cX9_even 66 = .ok (.aload_n 0, 1) := by decide +kernel
theorem dX9_even_67 : decode cX9_even 67 = .ok (.getfield 16, 3) := by decide +kernel
theorem dX9_even_70 : decode cX9_even 70 = .ok (.getfield 112, 3) := by decide +kernel
theorem dX9_even_73 : decode cX9_even 73 = .ok (.iload_n 2, 1) := by decide +kernel
theorem dX9_even_74 : decode cX9_even 74 = .ok (.aaload, 1) := by decide +kernel
theorem dX9_even_75 : decode cX9_even 75 = .ok (.iload_n 3, 1) := by decide +kernel
theorem dX9_even_76 : decode cX9_even 76 = .ok (.aload_n 0, 1) := by decide +kernel
theorem dX9_even_77 : decode cX9_even 77 = .ok (.getfield 16, 3) := by decide +kernel
theorem dX9_even_80 : decode cX9_even 80 = .ok (.getfield 116, 3) := by decide +kernel
theorem dX9_even_83 : decode cX9_even 83 = .ok (.iload 4, 2) := by decide +kernel
theorem dX9_even_85 : decode cX9_even 85 = .ok (.aaload, 1) := by decide +kernel
theorem dX9_even_86 : decode cX9_even 86 = .ok (.invokevirtual 189, 3) := by decide +kernel
theorem dX9_even_89 : decode cX9_even 89 = .ok (.lstore 7, 2) := by decide +kernel
theorem dX9_even_91 : decode cX9_even 91 = .ok (.aload_n 0, 1) := by decide +kernel
theorem dX9_even_92 : decode cX9_even 92 = .ok (.getfield 30, 3) := by decide +kernel
theorem dX9_even_95 : decode cX9_even 95 = .ok (.aload 5, 2) := by decide +kernel
theorem dX9_even_97 : decode cX9_even 97 = .ok (.aload_n 0, 1) := by decide +kernel
theorem dX9_even_98 : decode cX9_even 98 = .ok (.getfield 16, 3) := by decide +kernel
theorem dX9_even_101 : decode cX9_even 101 = .ok (.getfield 112, 3) := by decide +kernel
theorem dX9_even_104 : decode cX9_even 104 = .ok (.iload_n 2, 1) := by decide +kernel
theorem dX9_even_105 : decode cX9_even 105 = .ok (.aaload, 1) := by decide +kernel
theorem dX9_even_106 : decode cX9_even 106 = .ok (.iload_n 3, 1) := by decide +kernel
theorem dX9_even_107 : decode cX9_even 107 = .ok (.aload_n 0, 1) := by decide +kernel
theorem dX9_even_108 : decode cX9_even 108 = .ok (.getfield 16, 3) := by decide +kernel
theorem dX9_even_111 : decode cX9_even 111 = .ok (.getfield 116, 3) := by decide +kernel
theorem dX9_even_114 : decode cX9_even 114 = .ok (.iload 4, 2) := by decide +kernel
theorem dX9_even_116 : decode cX9_even 116 = .ok (.aaload, 1) := by decide +kernel
theorem dX9_even_117 : decode cX9_even 117 = .ok (.iload 6, 2) := by decide +kernel
theorem dX9_even_119 : decode cX9_even 119 = .ok (.invokevirtual 120, 3) := by decide +kernel
theorem dX9_even_122 : decode cX9_even 122 = .ok (.lload 7, 2) := by decide +kernel
theorem dX9_even_124 : decode cX9_even 124 = .ok (.lcmp, 1) := by decide +kernel
theorem dX9_even_125 : decode cX9_even 125 = .ok (.ifCond .ne 7, 3) := by decide +kernel
theorem dX9_even_128 : decode cX9_even 128 = .ok (.iconst 1, 1) := by decide +kernel
theorem dX9_even_129 : decode cX9_even 129 = .ok (.goto 4, 3) := by decide +kernel
theorem dX9_even_132 : decode cX9_even 132 = .ok (.iconst 0, 1) := by decide +kernel
theorem dX9_even_133 : decode cX9_even 133 = .ok (.ireturn, 1) := by decide +kernel
theorem dX9_round_0 : decode cX9_round 0 = .ok (.aload_n 0, 1) := by decide +kernel
theorem dX9_round_1 : decode cX9_round 1 = .ok (.aload_n 0, 1) := by decide +kernel
theorem dX9_round_2 : decode cX9_round 2 = .ok (.iload_n 1, 1) := by decide +kernel
theorem dX9_round_3 : decode cX9_round 3 = .ok (.iload_n 2, 1) := by decide +kernel
theorem dX9_round_4 : decode cX9_round 4 = .ok (.iconst 0, 1) := by decide +kernel
theorem dX9_round_5 : decode cX9_round 5 = .ok (.iload_n 3, 1) := by decide +kernel
theorem dX9_round_6 : decode cX9_round 6 = .ok (.invokevirtual 178, 3) := by decide +kernel
theorem dX9_round_9 : decode cX9_round 9 = .ok (.invokevirtual 103, 3) := by decide +kernel
theorem dX9_round_12 : decode cX9_round 12 = .ok (.ifCond .eq 7, 3) := by decide +kernel
theorem dX9_round_15 : decode cX9_round 15 = .ok (.ldc2_w 106, 3) := by decide +kernel
theorem dX9_round_18 : decode cX9_round 18 = .ok (.lreturn, 1) := by decide +kernel
theorem dX9_round_19 : decode cX9_round 19 = .ok (.aload_n 0, 1) := by decide +kernel
theorem dX9_round_20 : decode cX9_round 20 = .ok (.getfield 30, 3) := by decide +kernel
theorem dX9_round_23 : decode cX9_round 23 = .ok (.aload_n 0, 1) := by decide +kernel
theorem dX9_round_24 : decode cX9_round 24 = .ok (.getfield 16, 3) := by decide +kernel
theorem dX9_round_27 : decode cX9_round 27 = .ok (.getfield 108, 3) := by decide +kernel
theorem dX9_round_30 : decode cX9_round 30 = .ok (.iload_n 1, 1) := by decide +kernel
theorem dX9_round_31 : decode cX9_round 31 = .ok (.aaload, 1) := by decide +kernel
theorem dX9_round_32 : decode cX9_round 32 = .ok (.aload_n 0, 1) := by decide +kernel
theorem dX9_round_33 : decode cX9_round 33 = .ok (.getfield 16, 3) := by decide +kernel
theorem dX9_round_36 : decode cX9_round 36 = .ok (.getfield 112, 3) := by decide +kernel
theorem dX9_round_39 : decode cX9_round 39 = .ok (.iload_n 2, 1) := by decide +kernel
theorem dX9_round_40 : decode cX9_round 40 = .ok (.aaload, 1) := by decide +kernel
theorem dX9_round_41 : decode cX9_round 41 = .ok (.iconst 0, 1) := by decide +kernel
theorem dX9_round_42 : decode cX9_round 42 = .ok (.aload_n 0, 1) := by decide +kernel
theorem dX9_round_43 : decode cX9_round 43 = .ok (.getfield 16, 3) := by decide +kernel
theorem dX9_round_46 : decode cX9_round 46 = .ok (.getfield 116, 3) := by decide +kernel
theorem dX9_round_49 : decode cX9_round 49 = .ok (.iload_n 3, 1) := by decide +kernel
theorem dX9_round_50 : decode cX9_round 50 = .ok (.aaload, 1) := by decide +kernel
theorem dX9_round_51 : decode cX9_round 51 = .ok (.invokevirtual 189, 3) := by decide +kernel
theorem dX9_round_54 : decode cX9_round 54 = .ok (.lstore 5, 2) := by decide +kernel
theorem dX9_round_56 : decode cX9_round 56 = .ok (.aload_n 0, 1) := by decide +kernel
theorem dX9_round_57 : decode cX9_round 57 = .ok (.getfield 30, 3) := by decide +kernel
theorem dX9_round_60 : decode cX9_round 60 = .ok (.aload_n 0, 1) := by decide +kernel
theorem dX9_round_61 : decode cX9_round 61 = .ok (.getfield 16, 3) := by decide +kernel
theorem dX9_round_64 : decode cX9_round 64 = .ok (.getfield 108, 3) := by decide +kernel
theorem dX9_round_67 : decode cX9_round 67 = .ok (.iload_n 1, 1) := by decide +kernel
theorem dX9_round_68 : decode cX9_round 68 = .ok (.aaload, 1) := by decide +kernel
theorem dX9_round_69 : decode cX9_round 69 = .ok (.aload_n 0, 1) := by decide +kernel
theorem dX9_round_70 : decode cX9_round 70 = .ok (.getfield 16, 3) := by decide +kernel
theorem dX9_round_73 : decode cX9_round 73 = .ok (.getfield 112, 3) := by decide +kernel
theorem dX9_round_76 : decode cX9_round 76 = .ok (.iload_n 2, 1) := by decide +kernel
theorem dX9_round_77 : decode cX9_round 77 = .ok (.aaload, 1) := by decide +kernel
theorem dX9_round_78 : decode cX9_round 78 = .ok (.iconst 1, 1) := by decide +kernel
theorem dX9_round_79 : decode cX9_round 79 = .ok (.aload_n 0, 1) := by decide +kernel
theorem dX9_round_80 : decode cX9_round 80 = .ok (.getfield 16, 3) := by decide +kernel
theorem dX9_round_83 : decode cX9_round 83 = .ok (.getfield 116, 3) := by decide +kernel
theorem dX9_round_86 : decode cX9_round 86 = .ok (.iload_n 3, 1) := by decide +kernel
theorem dX9_round_87 : decode cX9_round 87 = .ok (.aaload, 1) := by decide +kernel
theorem dX9_round_88 : decode cX9_round 88 = .ok (.invokevirtual 189, 3) := by decide +kernel
theorem dX9_round_91 : decode cX9_round 91 = .ok (.lstore 7, 2) := by decide +kernel
theorem dX9_round_93 : decode cX9_round 93 = .ok (.lload 5, 2) := by decide +kernel
theorem dX9_round_95 : decode cX9_round 95 = .ok (.lload 7, 2) := by decide +kernel
theorem dX9_round_97 : decode cX9_round 97 = .ok (.ladd, 1) := by decide +kernel
theorem dX9_round_98 : decode cX9_round 98 = .ok (.ldc2_w 128, 3) := by decide +kernel
theorem dX9_round_101 : decode cX9_round 101 = .ok (.iload 4, 2) := by decide +kernel
theorem dX9_round_103 : decode cX9_round 103 = .ok (.invokestatic 130, 3) := by decide +kernel
theorem dX9_round_106 : decode cX9_round 106 = .ok (.lreturn, 1) := by decide +kernel
theorem dX9_driest_0 : decode cX9_driest 0 = .ok (.aload_n 0, 1) := by decide +kernel
theorem dX9_driest_1 : decode cX9_driest 1 = .ok (.getfield 16, 3) := by decide +kernel
theorem dX9_driest_4 : decode cX9_driest 4 = .ok (.iload_n 1, 1) := by decide +kernel
theorem dX9_driest_5 : decode cX9_driest 5 = .ok (.invokevirtual 141, 3) := by decide +kernel
theorem dX9_driest_8 : decode cX9_driest 8 = .ok (.ifCond .eq 21, 3) := by decide +kernel
theorem dX9_driest_11 : decode cX9_driest 11 = .ok (.aload_n 0, 1) := by decide +kernel
theorem dX9_driest_12 : decode cX9_driest 12 = .ok (.getfield 16, 3) := by decide +kernel
theorem dX9_driest_15 : decode cX9_driest 15 = .ok (.iload_n 2, 1) := by decide +kernel
theorem dX9_driest_16 : decode cX9_driest 16 = .ok (.invokevirtual 144, 3) := by decide +kernel
theorem dX9_driest_19 : decode cX9_driest 19 = .ok (.ifCond .eq 10, 3) := by decide +kernel
theorem dX9_driest_22 : decode cX9_driest 22 = .ok (.iload_n 3, 1) := by decide +kernel
theorem dX9_driest_23 : decode cX9_driest 23 = .ok (.invokestatic 157, 3) := by decide +kernel
theorem dX9_driest_26 : decode cX9_driest 26 = .ok (.ifCond .ne 9, 3) := by decide +kernel
theorem dX9_driest_29 : decode cX9_driest 29 = .ok (.aload_n 0, 1) := by decide +kernel
theorem dX9_driest_30 : decode cX9_driest 30 = .ok (.iconst 1, 1) := by decide +kernel
theorem dX9_driest_31 : decode cX9_driest 31 = .ok (.invokevirtual 56, 3) := by decide +kernel
theorem dX9_driest_34 : decode cX9_driest 34 = .ok (.ireturn, 1) := by decide +kernel
theorem dX9_driest_35 : decode cX9_driest 35 = .ok (.aload_n 0, 1) := by decide +kernel
theorem dX9_driest_36 : decode cX9_driest 36 = .ok (.getfield 16, 3) := by decide +kernel
theorem dX9_driest_39 : decode cX9_driest 39 = .ok (.getfield 196, 3) := by decide +kernel
theorem dX9_driest_42 : decode cX9_driest 42 = .ok (.ifCond .ne 10, 3) := by decide +kernel
theorem dX9_driest_45 : decode cX9_driest 45 = .ok (.aload_n 0, 1) := by decide +kernel
theorem dX9_driest_46 : decode cX9_driest 46 = .ok (.bipush 6, 2) := by decide +kernel
theorem dX9_driest_48 : decode cX9_driest 48 = .ok (.invokevirtual 56, 3) := by decide +kernel
theorem dX9_driest_51 : decode cX9_driest 51 = .ok (.ireturn, 1) := by decide +kernel
theorem dX9_driest_52 : decode cX9_driest 52 = .ok (.iconst 0, 1) := by decide +kernel
theorem dX9_driest_53 : decode cX9_driest 53 = .ok (.istore 4, 2) := by decide +kernel
theorem dX9_driest_55 : decode cX9_driest 55 = .ok (.ldc2_w 199, 3) := by decide +kernel
theorem dX9_driest_58 : decode cX9_driest 58 = .ok (.lstore 5, 2) := by decide +kernel
theorem dX9_driest_60 : decode cX9_driest 60 = .ok (.iconst 0, 1) := by decide +kernel
theorem dX9_driest_61 : decode cX9_driest 61 = .ok (.istore 7, 2) := by decide +kernel
theorem dX9_driest_63 : decode cX9_driest 63 = .ok (.iload 7, 2) := by decide +kernel
theorem dX9_driest_65 : decode cX9_driest 65 = .ok (.aload_n 0, 1) := by decide +kernel
theorem dX9_driest_66 : decode cX9_driest 66 = .ok (.getfield 16, 3) := by decide +kernel
theorem dX9_driest_69 : decode cX9_driest 69 = .ok (.getfield 196, 3) := by decide +kernel
theorem dX9_driest_72 : decode cX9_driest 72 = .ok (.if_icmp .ge 74, 3) := by decide +kernel
theorem dX9_driest_75 : decode cX9_driest 75 = .ok (.aload_n 0, 1) := by decide +kernel
theorem dX9_driest_76 : decode cX9_driest 76 = .ok (.getfield 16, 3) := by decide +kernel
theorem dX9_driest_79 : decode cX9_driest 79 = .ok (.getfield 116, 3) := by decide +kernel
theorem dX9_driest_82 : decode cX9_driest 82 = .ok (.iload 7, 2) := by decide +kernel
theorem dX9_driest_84 : decode cX9_driest 84 = .ok (.aaload, 1) := by decide +kernel
theorem dX9_driest_85 : decode cX9_driest 85 = .ok (.astore 8, 2) := by decide +kernel
theorem dX9_driest_87 : decode cX9_driest 87 = .ok (.aload_n 0, 1) := by decide +kernel
theorem dX9_driest_88 : decode cX9_driest 88 = .ok (.getfield 30, 3) := by decide +kernel
theorem dX9_driest_91 : decode cX9_driest 91 = .ok (.aload_n 0, 1) := by decide +kernel
theorem dX9_driest_92 : decode cX9_driest 92 = .ok (.getfield 16, 3) := by decide +kernel
theorem dX9_driest_95 : decode cX9_driest 95 = .ok (.getfield 108, 3) := by decide +kernel
theorem dX9_driest_98 : decode cX9_driest 98 = .ok (.iload_n 1, 1) := by decide +kernel
theorem dX9_driest_99 : decode cX9_driest 99 = .ok (.aaload, 1) := by decide +kernel
theorem dX9_driest_100 : decode cX9_driest 100 = .ok (.aload_n 0, 1) := by decide +kernel
theorem dX9_driest_101 : decode cX9_driest 101 = .ok (.getfield 16, 3) := by decide +kernel
theorem dX9_driest_104 : decode cX9_driest 104 = .ok (.getfield 112, 3) := by decide +kernel
theorem dX9_driest_107 : decode cX9_driest 107 = .ok (.iload_n 2, 1) := by decide +kernel
theorem dX9_driest_108 : decode cX9_driest 108 = .ok (.aaload, 1) := by decide +kernel
theorem dX9_driest_109 : decode cX9_driest 109 = .ok (.iload_n 3, 1) := by decide +kernel
theorem dX9_driest_110 : decode cX9_driest 110 = .ok (.aload 8, 2) := by decide +kernel
theorem dX9_driest_112 : decode cX9_driest 112 = .ok (.invokevirtual 189, 3) := by decide +kernel
theorem dX9_driest_115 : decode cX9_driest 115 = .ok (.aload 8, 2) := by decide +kernel
theorem dX9_driest_117 : decode cX9_driest 117 = .ok (.getfield 134, 3) := by decide +kernel
theorem dX9_driest_120 : decode cX9_driest 120 = .ok (.i2l, 1) := by decide +kernel
theorem dX9_driest_121 : decode cX9_driest 121 = .ok (.lmul, 1) := by decide +kernel
theorem dX9_driest_122 : decode cX9_driest 122 = .ok (.lstore 9, 2) := by decide +kernel
theorem dX9_driest_124 : decode cX9_driest 124 = .ok (.lload 9, 2) := by decide +kernel
theorem dX9_driest_126 : decode cX9_driest 126 = .ok (.lload 5, 2) := by decide +kernel
theorem dX9_driest_128 : decode cX9_driest 128 = .ok (.lcmp, 1) := by decide +kernel
theorem dX9_driest_129 : decode cX9_driest 129 = .ok (.ifCond .ge 11, 3) := by decide +kernel
theorem dX9_driest_132 : decode cX9_driest 132 = .ok (.lload 9, 2) := by decide +kernel
theorem dX9_driest_134 : decode cX9_driest 134 = .ok (.lstore 5, 2) := by decide +kernel
theorem dX9_driest_136 : decode cX9_driest 136 = .ok (.iload 7, 2) := by decide +kernel
theorem dX9_driest_138 : decode cX9_driest 138 = .ok (.istore 4, 2) := by decide +kernel
theorem dX9_driest_140 : decode cX9_driest 140 = .ok (.iinc 7 1, 3) := by decide +kernel
theorem dX9_driest_143 : decode cX9_driest 143 = .ok (.goto (-80), 3) := by decide +kernel
theorem dX9_driest_146 : decode cX9_driest 146 = .ok (.aload_n 0, 1) := by decide +kernel
theorem dX9_driest_147 : decode cX9_driest 147 = .ok (.iload 4, 2) := by decide +kernel
theorem dX9_driest_149 : decode cX9_driest 149 = .ok (.invokevirtual 89, 3) := by decide +kernel
theorem dX9_driest_152 : decode cX9_driest 152 = .ok (.ireturn, 1) := by decide +kernel
theorem dX9_lee_0 : decode cX9_lee 0 = .ok (.aload_n 0, 1) := by decide +kernel
theorem dX9_lee_1 : decode cX9_lee 1 = .ok (.aload_n 0, 1) := by decide +kernel
theorem dX9_lee_2 : decode cX9_lee 2 = .ok (.iload_n 1, 1) := by decide +kernel
theorem dX9_lee_3 : decode cX9_lee 3 = .ok (.iload_n 2, 1) := by decide +kernel
theorem dX9_lee_4 : decode cX9_lee 4 = .ok (.iload_n 3, 1) := by decide +kernel
theorem dX9_lee_5 : decode cX9_lee 5 = .ok (.iload 4, 2) := by decide +kernel
theorem dX9_lee_7 : decode cX9_lee 7 = .ok (.iload 5, 2) := by decide +kernel
theorem dX9_lee_9 : decode cX9_lee 9 = .ok (.iload 6, 2) := by decide +kernel
theorem dX9_lee_11 : decode cX9_lee 11 = .ok (.invokevirtual 201, 3) := by decide +kernel
theorem dX9_lee_14 : decode cX9_lee 14 = .ok (.invokevirtual 103, 3) := by decide +kernel
theorem dX9_lee_17 : decode cX9_lee 17 = .ok (.ifCond .eq 7, 3) := by decide +kernel
theorem dX9_lee_20 : decode cX9_lee 20 = .ok (.ldc2_w 106, 3) := by decide +kernel
theorem dX9_lee_23 : decode cX9_lee 23 = .ok (.lreturn, 1) := by decide +kernel
theorem dX9_lee_24 : decode cX9_lee 24 = .ok (.aload_n 0, 1) := by decide +kernel
theorem dX9_lee_25 : decode cX9_lee 25 = .ok (.getfield 30, 3) := by decide +kernel
theorem dX9_lee_28 : decode cX9_lee 28 = .ok (.aload_n 0, 1) := by decide +kernel
theorem dX9_lee_29 : decode cX9_lee 29 = .ok (.getfield 16, 3) := by decide +kernel
theorem dX9_lee_32 : decode cX9_lee 32 = .ok (.getfield 112, 3) := by decide +kernel
theorem dX9_lee_35 : decode cX9_lee 35 = .ok (.iload_n 3, 1) := by decide +kernel
theorem dX9_lee_36 : decode cX9_lee 36 = .ok (.aaload, 1) := by decide +kernel
theorem dX9_lee_37 : decode cX9_lee 37 = .ok (.iload 4, 2) := by decide +kernel
theorem dX9_lee_39 : decode cX9_lee 39 = .ok (.aload_n 0, 1) := by decide +kernel
theorem dX9_lee_40 : decode cX9_lee 40 = .ok (.getfield 16, 3) := by decide +kernel
theorem dX9_lee_43 : decode cX9_lee 43 = .ok (.getfield 116, 3) := by decide +kernel
theorem dX9_lee_46 : decode cX9_lee 46 = .ok (.iload 5, 2) := by decide +kernel
theorem dX9_lee_48 : decode cX9_lee 48 = .ok (.aaload, 1) := by decide +kernel
theorem dX9_lee_49 : decode cX9_lee 49 = .ok (.iload 6, 2) := by decide +kernel
theorem dX9_lee_51 : decode cX9_lee 51 = .ok (.invokevirtual 170, 3) := by decide +kernel
theorem dX9_lee_54 : decode cX9_lee 54 = .ok (.aload_n 0, 1) := by decide +kernel
theorem dX9_lee_55 : decode cX9_lee 55 = .ok (.getfield 30, 3) := by decide +kernel
theorem dX9_lee_58 : decode cX9_lee 58 = .ok (.aload_n 0, 1) := by decide +kernel
theorem dX9_lee_59 : decode cX9_lee 59 = .ok (.getfield 16, 3) := by decide +kernel
theorem dX9_lee_62 : decode cX9_lee 62 = .ok (.getfield 108, 3) := by decide +kernel
theorem dX9_lee_65 : decode cX9_lee 65 = .ok (.iload_n 1, 1) := by decide +kernel
theorem dX9_lee_66 : decode cX9_lee 66 = .ok (.aaload, 1) := by decide +kernel
theorem dX9_lee_67 : decode cX9_lee 67 = .ok (.aload_n 0, 1) := by decide +kernel
theorem dX9_lee_68 : decode cX9_lee 68 = .ok (.getfield 16, 3) := by decide +kernel
theorem dX9_lee_71 : decode cX9_lee 71 = .ok (.getfield 108, 3) := by decide +kernel
theorem dX9_lee_74 : decode cX9_lee 74 = .ok (.iload_n 2, 1) := by decide +kernel
theorem dX9_lee_75 : decode cX9_lee 75 = .ok (.aaload, 1) := by decide +kernel
theorem dX9_lee_76 : decode cX9_lee 76 = .ok (.invokevirtual 205, 3) := by decide +kernel
theorem dX9_lee_79 : decode cX9_lee 79 = .ok (.ldc2_w 128, 3) := by decide +kernel
theorem dX9_lee_82 : decode cX9_lee 82 = .ok (.iload 7, 2) := by decide +kernel
theorem dX9_lee_84 : decode cX9_lee 84 = .ok (.invokestatic 130, 3) := by decide +kernel
theorem dX9_lee_87 : decode cX9_lee 87 = .ok (.lreturn, 1) := by decide +kernel
theorem dX9_first_0 : decode cX9_first 0 = .ok (.aload_n 0, 1) := by decide +kernel
theorem dX9_first_1 : decode cX9_first 1 = .ok (.aload_n 0, 1) := by decide +kernel
theorem dX9_first_2 : decode cX9_first 2 = .ok (.iload_n 1, 1) := by decide +kernel
theorem dX9_first_3 : decode cX9_first 3 = .ok (.iload_n 2, 1) := by decide +kernel
theorem dX9_first_4 : decode cX9_first 4 = .ok (.iload_n 3, 1) := by decide +kernel
theorem dX9_first_5 : decode cX9_first 5 = .ok (.iload 4, 2) := by decide +kernel
theorem dX9_first_7 : decode cX9_first 7 = .ok (.iload 5, 2) := by decide +kernel
theorem dX9_first_9 : decode cX9_first 9 = .ok (.iload 6, 2) := by decide +kernel
theorem dX9_first_11 : decode cX9_first 11 = .ok (.invokevirtual 201, 3) := by decide +kernel
theorem dX9_first_14 : decode cX9_first 14 = .ok (.invokevirtual 103, 3) := by decide +kernel
theorem dX9_first_17 : decode cX9_first 17 = .ok (.ifCond .eq 5, 3) := by decide +kernel
theorem dX9_first_20 : decode cX9_first 20 = .ok (.iconst (-1), 1) := by decide +kernel
theorem dX9_first_21 : decode cX9_first 21 = .ok (.ireturn, 1) := by decide +kernel
theorem dX9_first_22 : decode cX9_first 22 = .ok (.aload_n 0, 1) := by decide +kernel
theorem dX9_first_23 : decode cX9_first 23 = .ok (.getfield 30, 3) := by decide +kernel
theorem dX9_first_26 : decode cX9_first 26 = .ok (.aload_n 0, 1) := by decide +kernel
theorem dX9_first_27 : decode cX9_first 27 = .ok (.getfield 16, 3) := by decide +kernel
theorem dX9_first_30 : decode cX9_first 30 = .ok (.getfield 112, 3) := by decide +kernel
theorem dX9_first_33 : decode cX9_first 33 = .ok (.iload_n 3, 1) := by decide +kernel
theorem dX9_first_34 : decode cX9_first 34 = .ok (.aaload, 1) := by decide +kernel
theorem dX9_first_35 : decode cX9_first 35 = .ok (.iload 4, 2) := by decide +kernel
theorem dX9_first_37 : decode cX9_first 37 = .ok (.aload_n 0, 1) := by decide +kernel
theorem dX9_first_38 : decode cX9_first 38 = .ok (.getfield 16, 3) := by decide +kernel
theorem dX9_first_41 : decode cX9_first 41 = .ok (.getfield 116, 3) := by decide +kernel
theorem dX9_first_44 : decode cX9_first 44 = .ok (.iload 5, 2) := by decide +kernel
theorem dX9_first_46 : decode cX9_first 46 = .ok (.aaload, 1) := by decide +kernel
theorem dX9_first_47 : decode cX9_first 47 = .ok (.iload 6, 2) := by decide +kernel
theorem dX9_first_49 : decode cX9_first 49 = .ok (.invokevirtual 170, 3) := by decide +kernel
theorem dX9_first_52 : decode cX9_first 52 = .ok (.aload_n 0, 1) := by decide +kernel
theorem dX9_first_53 : decode cX9_first 53 = .ok (.getfield 30, 3) := by decide +kernel
theorem dX9_first_56 : decode cX9_first 56 = .ok (.aload_n 0, 1) := by decide +kernel
theorem dX9_first_57 : decode cX9_first 57 = .ok (.getfield 16, 3) := by decide +kernel
theorem dX9_first_60 : decode cX9_first 60 = .ok (.getfield 108, 3) := by decide +kernel
theorem dX9_first_63 : decode cX9_first 63 = .ok (.iload_n 1, 1) := by decide +kernel
theorem dX9_first_64 : decode cX9_first 64 = .ok (.aaload, 1) := by decide +kernel
theorem dX9_first_65 : decode cX9_first 65 = .ok (.aload_n 0, 1) := by decide +kernel
theorem dX9_first_66 : decode cX9_first 66 = .ok (.getfield 16, 3) := by decide +kernel
theorem dX9_first_69 : decode cX9_first 69 = .ok (.getfield 108, 3) := by decide +kernel
theorem dX9_first_72 : decode cX9_first 72 = .ok (.iload_n 2, 1) := by decide +kernel
theorem dX9_first_73 : decode cX9_first 73 = .ok (.aaload, 1) := by decide +kernel
theorem dX9_first_74 : decode cX9_first 74 = .ok (.invokevirtual 205, 3) := by decide +kernel
theorem dX9_first_77 : decode cX9_first 77 = .ok (.lstore 7, 2) := by decide +kernel
theorem dX9_first_79 : decode cX9_first 79 = .ok (.aload_n 0, 1) := by decide +kernel
theorem dX9_first_80 : decode cX9_first 80 = .ok (.getfield 30, 3) := by decide +kernel
theorem dX9_first_83 : decode cX9_first 83 = .ok (.aload_n 0, 1) := by decide +kernel
theorem dX9_first_84 : decode cX9_first 84 = .ok (.getfield 16, 3) := by decide +kernel
theorem dX9_first_87 : decode cX9_first 87 = .ok (.getfield 108, 3) := by decide +kernel
theorem dX9_first_90 : decode cX9_first 90 = .ok (.iload_n 2, 1) := by decide +kernel
theorem dX9_first_91 : decode cX9_first 91 = .ok (.aaload, 1) := by decide +kernel
theorem dX9_first_92 : decode cX9_first 92 = .ok (.aload_n 0, 1) := by decide +kernel
theorem dX9_first_93 : decode cX9_first 93 = .ok (.getfield 16, 3) := by decide +kernel
theorem dX9_first_96 : decode cX9_first 96 = .ok (.getfield 108, 3) := by decide +kernel
theorem dX9_first_99 : decode cX9_first 99 = .ok (.iload_n 1, 1) := by decide +kernel
theorem dX9_first_100 : decode cX9_first 100 = .ok (.aaload, 1) := by decide +kernel
theorem dX9_first_101 : decode cX9_first 101 = .ok (.invokevirtual 205, 3) := by decide +kernel
theorem dX9_first_104 : decode cX9_first 104 = .ok (.lstore 9, 2) := by decide +kernel
theorem dX9_first_106 : decode cX9_first 106 = .ok (.lload 7, 2) := by decide +kernel
theorem dX9_first_108 : decode cX9_first 108 = .ok (.lload 9, 2) := by decide +kernel
theorem dX9_first_110 : decode cX9_first 110 = .ok (.lcmp, 1) := by decide +kernel
theorem dX9_first_111 : decode cX9_first 111 = .ok (.ifCond .ne 6, 3) := by decide +kernel
theorem dX9_first_114 : decode cX9_first 114 = .ok (.bipush (-2), 2) := by decide +kernel
theorem dX9_first_116 : decode cX9_first 116 = .ok (.ireturn, 1) := by decide +kernel
theorem dX9_first_117 : decode cX9_first 117 = .ok (.lload 7, 2) := by decide +kernel
theorem dX9_first_119 : decode cX9_first 119 = .ok (.lload 9, 2) := by decide +kernel
theorem dX9_first_121 : decode cX9_first 121 = .ok (.lcmp, 1) := by decide +kernel
theorem dX9_first_122 : decode cX9_first 122 = .ok (.ifCond .ge 7, 3) := by decide +kernel
theorem dX9_first_125 : decode cX9_first 125 = .ok (.iconst 0, 1) := by decide +kernel
theorem dX9_first_126 : decode cX9_first 126 = .ok (.goto 4, 3) := by decide +kernel
theorem dX9_first_129 : decode cX9_first 129 = .ok (.iconst 1, 1) := by decide +kernel
theorem dX9_first_130 : decode cX9_first 130 = .ok (.ireturn, 1) := by decide +kernel
theorem dX9_tripTrouble_0 : decode cX9_tripTrouble 0 = .ok (.aload_n 0, 1) := by decide +kernel
theorem dX9_tripTrouble_1 : decode cX9_tripTrouble 1 = .ok (.getfield 16, 3) := by decide +kernel
theorem dX9_tripTrouble_4 : decode cX9_tripTrouble 4 = .ok (.iload_n 1, 1) := by decide +kernel
theorem dX9_tripTrouble_5 : decode cX9_tripTrouble 5 = .ok (.invokevirtual 141, 3) := by decide +kernel
theorem dX9_tripTrouble_8 : decode cX9_tripTrouble 8 = .ok (.ifCond .eq 37, 3) := by decide +kernel
theorem dX9_tripTrouble_11 : decode cX9_tripTrouble 11 = .ok (.aload_n 0, 1) := by decide +kernel
theorem dX9_tripTrouble_12 : decode cX9_tripTrouble 12 = .ok (.getfield 16, 3) := by decide +kernel
theorem dX9_tripTrouble_15 : decode cX9_tripTrouble 15 = .ok (.iload_n 2, 1) := by decide +kernel
theorem dX9_tripTrouble_16 : decode cX9_tripTrouble 16 = .ok (.invokevirtual 144, 3) := by decide +kernel
theorem dX9_tripTrouble_19 : decode cX9_tripTrouble 19 = .ok (.ifCond .eq 26, 3) := by decide +kernel
theorem dX9_tripTrouble_22 : decode cX9_tripTrouble 22 = .ok (.iload_n 3, 1) := by decide +kernel
theorem dX9_tripTrouble_23 : decode cX9_tripTrouble 23 = .ok (.invokestatic 157, 3) := by decide +kernel
theorem dX9_tripTrouble_26 : decode cX9_tripTrouble 26 = .ok (.ifCond .eq 19, 3) := by decide +kernel
theorem dX9_tripTrouble_29 : decode cX9_tripTrouble 29 = .ok (.aload_n 0, 1) := by decide +kernel
theorem dX9_tripTrouble_30 : decode cX9_tripTrouble 30 = .ok (.getfield 16, 3) := by decide +kernel
theorem dX9_tripTrouble_33 : decode cX9_tripTrouble 33 = .ok (.iload 4, 2) := by decide +kernel
theorem dX9_tripTrouble_35 : decode cX9_tripTrouble 35 = .ok (.invokevirtual 160, 3) := by decide +kernel
theorem dX9_tripTrouble_38 : decode cX9_tripTrouble 38 = .ok (.ifCond .eq 7, 3) := by decide +kernel
theorem dX9_tripTrouble_41 : decode cX9_tripTrouble 41 = .ok (.iconst 1, 1) := by decide +kernel
theorem dX9_tripTrouble_42 : decode cX9_tripTrouble 42 = .ok (.goto 4, 3) := by decide +kernel
theorem dX9_tripTrouble_45 : decode cX9_tripTrouble 45 = .ok (.iconst 0, 1) := by decide +kernel
theorem dX9_tripTrouble_46 : decode cX9_tripTrouble 46 = .ok (.istore 5, 2) := by decide +kernel
theorem dX9_tripTrouble_48 : decode cX9_tripTrouble 48 = .ok (.iload 5, 2) := by decide +kernel
theorem dX9_tripTrouble_50 : decode cX9_tripTrouble 50 = .ok (.ifCond .eq 7, 3) := by decide +kernel
theorem dX9_tripTrouble_53 : decode cX9_tripTrouble 53 = .ok (.iconst 0, 1) := by decide +kernel
theorem dX9_tripTrouble_54 : decode cX9_tripTrouble 54 = .ok (.goto 4, 3) := by decide +kernel
theorem dX9_tripTrouble_57 : decode cX9_tripTrouble 57 = .ok (.iconst 1, 1) := by decide +kernel
theorem dX9_tripTrouble_58 : decode cX9_tripTrouble 58 = .ok (.ireturn, 1) := by decide +kernel
theorem dX9_legTrouble_0 : decode cX9_legTrouble 0 = .ok (.aload_n 0, 1) := by decide +kernel
theorem dX9_legTrouble_1 : decode cX9_legTrouble 1 = .ok (.iload_n 1, 1) := by decide +kernel
theorem dX9_legTrouble_2 : decode cX9_legTrouble 2 = .ok (.iload_n 2, 1) := by decide +kernel
theorem dX9_legTrouble_3 : decode cX9_legTrouble 3 = .ok (.iload_n 3, 1) := by decide +kernel
theorem dX9_legTrouble_4 : decode cX9_legTrouble 4 = .ok (.iload 4, 2) := by decide +kernel
theorem dX9_legTrouble_6 : decode cX9_legTrouble 6 = .ok (.invokevirtual 178, 3) := by decide +kernel
theorem dX9_legTrouble_9 : decode cX9_legTrouble 9 = .ok (.istore 6, 2) := by decide +kernel
theorem dX9_legTrouble_11 : decode cX9_legTrouble 11 = .ok (.iload 6, 2) := by decide +kernel
theorem dX9_legTrouble_13 : decode cX9_legTrouble 13 = .ok (.ifCond .eq 6, 3) := by decide +kernel
theorem dX9_legTrouble_16 : decode cX9_legTrouble 16 = .ok (.iload 6, 2) := by decide +kernel
theorem dX9_legTrouble_18 : decode cX9_legTrouble 18 = .ok (.ireturn, 1) := by decide +kernel
theorem dX9_legTrouble_19 : decode cX9_legTrouble 19 = .ok (.aload_n 0, 1) := by decide +kernel
theorem dX9_legTrouble_20 : decode cX9_legTrouble 20 = .ok (.getfield 16, 3) := by decide +kernel
theorem dX9_legTrouble_23 : decode cX9_legTrouble 23 = .ok (.getfield 108, 3) := by decide +kernel
theorem dX9_legTrouble_26 : decode cX9_legTrouble 26 = .ok (.iload_n 1, 1) := by decide +kernel
theorem dX9_legTrouble_27 : decode cX9_legTrouble 27 = .ok (.aaload, 1) := by decide +kernel
theorem dX9_legTrouble_28 : decode cX9_legTrouble 28 = .ok (.iload 5, 2) := by decide +kernel
theorem dX9_legTrouble_30 : decode cX9_legTrouble 30 = .ok (.invokevirtual 147, 3) := by decide +kernel
theorem dX9_legTrouble_33 : decode cX9_legTrouble 33 = .ok (.ifCond .eq 7, 3) := by decide +kernel
theorem dX9_legTrouble_36 : decode cX9_legTrouble 36 = .ok (.iconst 0, 1) := by decide +kernel
theorem dX9_legTrouble_37 : decode cX9_legTrouble 37 = .ok (.goto 4, 3) := by decide +kernel
theorem dX9_legTrouble_40 : decode cX9_legTrouble 40 = .ok (.iconst 2, 1) := by decide +kernel
theorem dX9_legTrouble_41 : decode cX9_legTrouble 41 = .ok (.ireturn, 1) := by decide +kernel
theorem dX9_leeTrouble_0 : decode cX9_leeTrouble 0 = .ok (.iload_n 1, 1) := by decide +kernel
theorem dX9_leeTrouble_1 : decode cX9_leeTrouble 1 = .ok (.iload_n 2, 1) := by decide +kernel
theorem dX9_leeTrouble_2 : decode cX9_leeTrouble 2 = .ok (.if_icmp .eq 25, 3) := by decide +kernel
theorem dX9_leeTrouble_5 : decode cX9_leeTrouble 5 = .ok (.aload_n 0, 1) := by decide +kernel
theorem dX9_leeTrouble_6 : decode cX9_leeTrouble 6 = .ok (.getfield 16, 3) := by decide +kernel
theorem dX9_leeTrouble_9 : decode cX9_leeTrouble 9 = .ok (.iload_n 1, 1) := by decide +kernel
theorem dX9_leeTrouble_10 : decode cX9_leeTrouble 10 = .ok (.invokevirtual 141, 3) := by decide +kernel
theorem dX9_leeTrouble_13 : decode cX9_leeTrouble 13 = .ok (.ifCond .eq 14, 3) := by decide +kernel
theorem dX9_leeTrouble_16 : decode cX9_leeTrouble 16 = .ok (.aload_n 0, 1) := by decide +kernel
theorem dX9_leeTrouble_17 : decode cX9_leeTrouble 17 = .ok (.getfield 16, 3) := by decide +kernel
theorem dX9_leeTrouble_20 : decode cX9_leeTrouble 20 = .ok (.iload_n 2, 1) := by decide +kernel
theorem dX9_leeTrouble_21 : decode cX9_leeTrouble 21 = .ok (.invokevirtual 141, 3) := by decide +kernel
theorem dX9_leeTrouble_24 : decode cX9_leeTrouble 24 = .ok (.ifCond .ne 5, 3) := by decide +kernel
theorem dX9_leeTrouble_27 : decode cX9_leeTrouble 27 = .ok (.iconst 1, 1) := by decide +kernel
theorem dX9_leeTrouble_28 : decode cX9_leeTrouble 28 = .ok (.ireturn, 1) := by decide +kernel
theorem dX9_leeTrouble_29 : decode cX9_leeTrouble 29 = .ok (.aload_n 0, 1) := by decide +kernel
theorem dX9_leeTrouble_30 : decode cX9_leeTrouble 30 = .ok (.iload_n 1, 1) := by decide +kernel
theorem dX9_leeTrouble_31 : decode cX9_leeTrouble 31 = .ok (.iload_n 3, 1) := by decide +kernel
theorem dX9_leeTrouble_32 : decode cX9_leeTrouble 32 = .ok (.iload 4, 2) := by decide +kernel
theorem dX9_leeTrouble_34 : decode cX9_leeTrouble 34 = .ok (.iload 5, 2) := by decide +kernel
theorem dX9_leeTrouble_36 : decode cX9_leeTrouble 36 = .ok (.iload 6, 2) := by decide +kernel
theorem dX9_leeTrouble_38 : decode cX9_leeTrouble 38 = .ok (.invokevirtual 99, 3) := by decide +kernel
theorem dX9_leeTrouble_41 : decode cX9_leeTrouble 41 = .ok (.istore 7, 2) := by decide +kernel
theorem dX9_leeTrouble_43 : decode cX9_leeTrouble 43 = .ok (.iload 7, 2) := by decide +kernel
theorem dX9_leeTrouble_45 : decode cX9_leeTrouble 45 = .ok (.ifCond .eq 6, 3) := by decide +kernel
theorem dX9_leeTrouble_48 : decode cX9_leeTrouble 48 = .ok (.iload 7, 2) := by decide +kernel
theorem dX9_leeTrouble_50 : decode cX9_leeTrouble 50 = .ok (.ireturn, 1) := by decide +kernel
theorem dX9_leeTrouble_51 : decode cX9_leeTrouble 51 = .ok (.aload_n 0, 1) := by decide +kernel
theorem dX9_leeTrouble_52 : decode cX9_leeTrouble 52 = .ok (.getfield 16, 3) := by decide +kernel
theorem dX9_leeTrouble_55 : decode cX9_leeTrouble 55 = .ok (.getfield 108, 3) := by decide +kernel
theorem dX9_leeTrouble_58 : decode cX9_leeTrouble 58 = .ok (.iload_n 2, 1) := by decide +kernel
theorem dX9_leeTrouble_59 : decode cX9_leeTrouble 59 = .ok (.aaload, 1) := by decide +kernel
theorem dX9_leeTrouble_60 : decode cX9_leeTrouble 60 = .ok (.iload 6, 2) := by decide +kernel
theorem dX9_leeTrouble_62 : decode cX9_leeTrouble 62 = .ok (.invokevirtual 147, 3) := by decide +kernel
theorem dX9_leeTrouble_65 : decode cX9_leeTrouble 65 = .ok (.ifCond .eq 7, 3) := by decide +kernel
theorem dX9_leeTrouble_68 : decode cX9_leeTrouble 68 = .ok (.iconst 0, 1) := by decide +kernel
theorem dX9_leeTrouble_69 : decode cX9_leeTrouble 69 = .ok (.goto 4, 3) := by decide +kernel
theorem dX9_leeTrouble_72 : decode cX9_leeTrouble 72 = .ok (.iconst 2, 1) := by decide +kernel
theorem dX9_leeTrouble_73 : decode cX9_leeTrouble 73 = .ok (.ireturn, 1) := by decide +kernel
theorem dX9_isWay_0 : decode cX9_isWay 0 = .ok (.iload_n 0, 1) := by decide +kernel
theorem dX9_isWay_1 : decode cX9_isWay 1 = .ok (.ifCond .eq 8, 3) := by decide +kernel
theorem dX9_isWay_4 : decode cX9_isWay 4 = .ok (.iload_n 0, 1) := by decide +kernel
theorem dX9_isWay_5 : decode cX9_isWay 5 = .ok (.iconst 1, 1) := by decide +kernel
theorem dX9_isWay_6 : decode cX9_isWay 6 = .ok (.if_icmp .ne 7, 3) := by decide +kernel
theorem dX9_isWay_9 : decode cX9_isWay 9 = .ok (.iconst 1, 1) := by decide +kernel
theorem dX9_isWay_10 : decode cX9_isWay 10 = .ok (.goto 4, 3) := by decide +kernel
theorem dX9_isWay_13 : decode cX9_isWay 13 = .ok (.iconst 0, 1) := by decide +kernel
theorem dX9_isWay_14 : decode cX9_isWay 14 = .ok (.ireturn, 1) := by decide +kernel
theorem dX9_isFace_0 : decode cX9_isFace 0 = .ok (.iload_n 0, 1) := by decide +kernel
theorem dX9_isFace_1 : decode cX9_isFace 1 = .ok (.ifCond .lt 12, 3) := by decide +kernel
theorem dX9_isFace_4 : decode cX9_isFace 4 = .ok (.iload_n 0, 1) := by decide +kernel
theorem dX9_isFace_5 : decode cX9_isFace 5 = .ok (.iconst 5, 1) := by decide +kernel
theorem dX9_isFace_6 : decode cX9_isFace 6 = .ok (.if_icmp .ge 7, 3) := by decide +kernel
theorem dX9_isFace_9 : decode cX9_isFace 9 = .ok (.iconst 1, 1) := by decide +kernel
theorem dX9_isFace_10 : decode cX9_isFace 10 = .ok (.goto 4, 3) := by decide +kernel
theorem dX9_isFace_13 : decode cX9_isFace 13 = .ok (.iconst 0, 1) := by decide +kernel
theorem dX9_isFace_14 : decode cX9_isFace 14 = .ok (.ireturn, 1) := by decide +kernel
theorem dX9_fraction_0 : decode cX9_fraction 0 = .ok (.lload_n 0, 1) := by decide +kernel
theorem dX9_fraction_1 : decode cX9_fraction 1 = .ok (.lload_n 2, 1) := by decide +kernel
theorem dX9_fraction_2 : decode cX9_fraction 2 = .ok (.invokestatic 209, 3) := by decide +kernel
theorem dX9_fraction_5 : decode cX9_fraction 5 = .ok (.lstore 5, 2) := by decide +kernel
theorem dX9_fraction_7 : decode cX9_fraction 7 = .ok (.lload 5, 2) := by decide +kernel
theorem dX9_fraction_9 : decode cX9_fraction 9 = .ok (.lconst 0, 1) := by decide +kernel
theorem dX9_fraction_10 : decode cX9_fraction 10 = .ok (.lcmp, 1) := by decide +kernel
theorem dX9_fraction_11 : decode cX9_fraction 11 = .ok (.ifCond .gt 14, 3) := by decide +kernel
theorem dX9_fraction_14 : decode cX9_fraction 14 = .ok (.iload 4, 2) := by decide +kernel
theorem dX9_fraction_16 : decode cX9_fraction 16 = .ok (.ifCond .eq 7, 3) := by decide +kernel
theorem dX9_fraction_19 : decode cX9_fraction 19 = .ok (.lconst 1, 1) := by decide +kernel
theorem dX9_fraction_20 : decode cX9_fraction 20 = .ok (.goto 4, 3) := by decide +kernel
theorem dX9_fraction_23 : decode cX9_fraction 23 = .ok (.lconst 0, 1) := by decide +kernel
theorem dX9_fraction_24 : decode cX9_fraction 24 = .ok (.lreturn, 1) := by decide +kernel
theorem dX9_fraction_25 : decode cX9_fraction 25 = .ok (.iload 4, 2) := by decide +kernel
theorem dX9_fraction_27 : decode cX9_fraction 27 = .ok (.ifCond .eq 7, 3) := by decide +kernel
theorem dX9_fraction_30 : decode cX9_fraction 30 = .ok (.lload_n 2, 1) := by decide +kernel
theorem dX9_fraction_31 : decode cX9_fraction 31 = .ok (.goto 4, 3) := by decide +kernel
theorem dX9_fraction_34 : decode cX9_fraction 34 = .ok (.lload_n 0, 1) := by decide +kernel
theorem dX9_fraction_35 : decode cX9_fraction 35 = .ok (.lload 5, 2) := by decide +kernel
theorem dX9_fraction_37 : decode cX9_fraction 37 = .ok (.ldiv, 1) := by decide +kernel
theorem dX9_fraction_38 : decode cX9_fraction 38 = .ok (.lreturn, 1) := by decide +kernel
theorem dX9_commonDivisor_0 : decode cX9_commonDivisor 0 = .ok (.lload_n 0, 1) := by decide +kernel
theorem dX9_commonDivisor_1 : decode cX9_commonDivisor 1 = .ok (.lstore 4, 2) := by decide +kernel
theorem dX9_commonDivisor_3 : decode cX9_commonDivisor 3 = .ok (.lload_n 2, 1) := by decide +kernel
theorem dX9_commonDivisor_4 : decode cX9_commonDivisor 4 = .ok (.lstore 6, 2) := by decide +kernel
theorem dX9_commonDivisor_6 : decode cX9_commonDivisor 6 = .ok (.iconst 0, 1) := by decide +kernel
theorem dX9_commonDivisor_7 : decode cX9_commonDivisor 7 = .ok (.istore 8, 2) := by decide +kernel
theorem dX9_commonDivisor_9 : decode cX9_commonDivisor 9 = .ok (.iload 8, 2) := by decide +kernel
theorem dX9_commonDivisor_11 : decode cX9_commonDivisor 11 = .ok (.sipush 200, 3) := by decide +kernel
theorem dX9_commonDivisor_14 : decode cX9_commonDivisor 14 = .ok (.if_icmp .ge 31, 3) := by decide +kernel
theorem dX9_commonDivisor_17 : decode cX9_commonDivisor 17 = .ok (.lload 6, 2) := by decide +kernel
theorem dX9_commonDivisor_19 : decode cX9_commonDivisor 19 = .ok (.lconst 0, 1) := by decide +kernel
theorem dX9_commonDivisor_20 : decode cX9_commonDivisor 20 = .ok (.lcmp, 1) := by decide +kernel
theorem dX9_commonDivisor_21 : decode cX9_commonDivisor 21 = .ok (.ifCond .eq 24, 3) := by decide +kernel
theorem dX9_commonDivisor_24 : decode cX9_commonDivisor 24 = .ok (.lload 4, 2) := by decide +kernel
theorem dX9_commonDivisor_26 : decode cX9_commonDivisor 26 = .ok (.lload 6, 2) := by decide +kernel
theorem dX9_commonDivisor_28 : decode cX9_commonDivisor 28 = .ok (.lrem, 1) := by decide +kernel
theorem dX9_commonDivisor_29 : decode cX9_commonDivisor 29 = .ok (.lstore 9, 2) := by decide +kernel
theorem dX9_commonDivisor_31 : decode cX9_commonDivisor 31 = .ok (.lload 6, 2) := by decide +kernel
theorem dX9_commonDivisor_33 : decode cX9_commonDivisor 33 = .ok (.lstore 4, 2) := by decide +kernel
theorem dX9_commonDivisor_35 : decode cX9_commonDivisor 35 = .ok (.lload 9, 2) := by decide +kernel
theorem dX9_commonDivisor_37 : decode cX9_commonDivisor 37 = .ok (.lstore 6, 2) := by decide +kernel
theorem dX9_commonDivisor_39 : decode cX9_commonDivisor 39 = .ok (.iinc 8 1, 3) := by decide +kernel
theorem dX9_commonDivisor_42 : decode cX9_commonDivisor 42 = .ok (.goto (-33), 3) := by decide +kernel
theorem dX9_commonDivisor_45 : decode cX9_commonDivisor 45 = .ok (.lload 4, 2) := by decide +kernel
theorem dX9_commonDivisor_47 : decode cX9_commonDivisor 47 = .ok (.lreturn, 1) := by decide +kernel
theorem dX9_least_0 : decode cX9_least 0 = .ok (.aload_n 0, 1) := by decide +kernel
theorem dX9_least_1 : decode cX9_least 1 = .ok (.aload_n 0, 1) := by decide +kernel
theorem dX9_least_2 : decode cX9_least 2 = .ok (.iload_n 1, 1) := by decide +kernel
theorem dX9_least_3 : decode cX9_least 3 = .ok (.iload_n 2, 1) := by decide +kernel
theorem dX9_least_4 : decode cX9_least 4 = .ok (.iload_n 3, 1) := by decide +kernel
theorem dX9_least_5 : decode cX9_least 5 = .ok (.iload 4, 2) := by decide +kernel
theorem dX9_least_7 : decode cX9_least 7 = .ok (.iload 5, 2) := by decide +kernel
theorem dX9_least_9 : decode cX9_least 9 = .ok (.invokevirtual 213, 3) := by decide +kernel
theorem dX9_least_12 : decode cX9_least 12 = .ok (.invokevirtual 103, 3) := by decide +kernel
theorem dX9_least_15 : decode cX9_least 15 = .ok (.ifCond .eq 7, 3) := by decide +kernel
theorem dX9_least_18 : decode cX9_least 18 = .ok (.ldc2_w 106, 3) := by decide +kernel
theorem dX9_least_21 : decode cX9_least 21 = .ok (.lreturn, 1) := by decide +kernel
theorem dX9_least_22 : decode cX9_least 22 = .ok (.aload_n 0, 1) := by decide +kernel
theorem dX9_least_23 : decode cX9_least 23 = .ok (.getfield 37, 3) := by decide +kernel
theorem dX9_least_26 : decode cX9_least 26 = .ok (.iload_n 2, 1) := by decide +kernel
theorem dX9_least_27 : decode cX9_least 27 = .ok (.iload 4, 2) := by decide +kernel
theorem dX9_least_29 : decode cX9_least 29 = .ok (.invokevirtual 216, 3) := by decide +kernel
theorem dX9_least_32 : decode cX9_least 32 = .ok (.ldc2_w 139, 3) := by decide +kernel
theorem dX9_least_35 : decode cX9_least 35 = .ok (.iload 6, 2) := by decide +kernel
theorem dX9_least_37 : decode cX9_least 37 = .ok (.invokestatic 130, 3) := by decide +kernel
theorem dX9_least_40 : decode cX9_least 40 = .ok (.lreturn, 1) := by decide +kernel
theorem dX9_there_0 : decode cX9_there 0 = .ok (.aload_n 0, 1) := by decide +kernel
theorem dX9_there_1 : decode cX9_there 1 = .ok (.aload_n 0, 1) := by decide +kernel
theorem dX9_there_2 : decode cX9_there 2 = .ok (.iload_n 1, 1) := by decide +kernel
theorem dX9_there_3 : decode cX9_there 3 = .ok (.iload_n 2, 1) := by decide +kernel
theorem dX9_there_4 : decode cX9_there 4 = .ok (.iload_n 3, 1) := by decide +kernel
theorem dX9_there_5 : decode cX9_there 5 = .ok (.iload 4, 2) := by decide +kernel
theorem dX9_there_7 : decode cX9_there 7 = .ok (.iload 5, 2) := by decide +kernel
theorem dX9_there_9 : decode cX9_there 9 = .ok (.invokevirtual 213, 3) := by decide +kernel
theorem dX9_there_12 : decode cX9_there 12 = .ok (.invokevirtual 103, 3) := by decide +kernel
theorem dX9_there_15 : decode cX9_there 15 = .ok (.ifCond .eq 5, 3) := by decide +kernel
theorem dX9_there_18 : decode cX9_there 18 = .ok (.iconst (-1), 1) := by decide +kernel
theorem dX9_there_19 : decode cX9_there 19 = .ok (.ireturn, 1) := by decide +kernel
theorem dX9_there_20 : decode cX9_there 20 = .ok (.aload_n 0, 1) := by decide +kernel
theorem dX9_there_21 : decode cX9_there 21 = .ok (.getfield 37, 3) := by decide +kernel
theorem dX9_there_24 : decode cX9_there 24 = .ok (.iload_n 2, 1) := by decide +kernel
theorem dX9_there_25 : decode cX9_there 25 = .ok (.iload 4, 2) := by decide +kernel
theorem dX9_there_27 : decode cX9_there 27 = .ok (.invokevirtual 220, 3) := by decide +kernel
theorem dX9_there_30 : decode cX9_there 30 = .ok (.ireturn, 1) := by decide +kernel
theorem dX9_steps_0 : decode cX9_steps 0 = .ok (.aload_n 0, 1) := by decide +kernel
theorem dX9_steps_1 : decode cX9_steps 1 = .ok (.aload_n 0, 1) := by decide +kernel
theorem dX9_steps_2 : decode cX9_steps 2 = .ok (.iload_n 1, 1) := by decide +kernel
theorem dX9_steps_3 : decode cX9_steps 3 = .ok (.iload_n 2, 1) := by decide +kernel
theorem dX9_steps_4 : decode cX9_steps 4 = .ok (.iload_n 3, 1) := by decide +kernel
theorem dX9_steps_5 : decode cX9_steps 5 = .ok (.iload 4, 2) := by decide +kernel
theorem dX9_steps_7 : decode cX9_steps 7 = .ok (.iload 5, 2) := by decide +kernel
theorem dX9_steps_9 : decode cX9_steps 9 = .ok (.invokevirtual 213, 3) := by decide +kernel
theorem dX9_steps_12 : decode cX9_steps 12 = .ok (.invokevirtual 103, 3) := by decide +kernel
theorem dX9_steps_15 : decode cX9_steps 15 = .ok (.ifCond .eq 5, 3) := by decide +kernel
theorem dX9_steps_18 : decode cX9_steps 18 = .ok (.iconst (-1), 1) := by decide +kernel
theorem dX9_steps_19 : decode cX9_steps 19 = .ok (.ireturn, 1) := by decide +kernel
theorem dX9_steps_20 : decode cX9_steps 20 = .ok (.aload_n 0, 1) := by decide +kernel
theorem dX9_steps_21 : decode cX9_steps 21 = .ok (.getfield 37, 3) := by decide +kernel
theorem dX9_steps_24 : decode cX9_steps 24 = .ok (.aload_n 0, 1) := by decide +kernel
theorem dX9_steps_25 : decode cX9_steps 25 = .ok (.getfield 16, 3) := by decide +kernel
theorem dX9_steps_28 : decode cX9_steps 28 = .ok (.iload_n 2, 1) := by decide +kernel
theorem dX9_steps_29 : decode cX9_steps 29 = .ok (.iload 4, 2) := by decide +kernel
theorem dX9_steps_31 : decode cX9_steps 31 = .ok (.invokevirtual 224, 3) := by decide +kernel
theorem dX9_steps_34 : decode cX9_steps 34 = .ok (.ireturn, 1) := by decide +kernel
theorem dX9_step_0 : decode cX9_step 0 = .ok (.aload_n 0, 1) := by decide +kernel
theorem dX9_step_1 : decode cX9_step 1 = .ok (.aload_n 0, 1) := by decide +kernel
theorem dX9_step_2 : decode cX9_step 2 = .ok (.iload_n 1, 1) := by decide +kernel
theorem dX9_step_3 : decode cX9_step 3 = .ok (.iload_n 2, 1) := by decide +kernel
theorem dX9_step_4 : decode cX9_step 4 = .ok (.iload_n 3, 1) := by decide +kernel
theorem dX9_step_5 : decode cX9_step 5 = .ok (.iload 4, 2) := by decide +kernel
theorem dX9_step_7 : decode cX9_step 7 = .ok (.iload 5, 2) := by decide +kernel
theorem dX9_step_9 : decode cX9_step 9 = .ok (.invokevirtual 213, 3) := by decide +kernel
theorem dX9_step_12 : decode cX9_step 12 = .ok (.invokevirtual 103, 3) := by decide +kernel
theorem dX9_step_15 : decode cX9_step 15 = .ok (.ifCond .eq 5, 3) := by decide +kernel
theorem dX9_step_18 : decode cX9_step 18 = .ok (.iconst (-1), 1) := by decide +kernel
theorem dX9_step_19 : decode cX9_step 19 = .ok (.ireturn, 1) := by decide +kernel
theorem dX9_step_20 : decode cX9_step 20 = .ok (.aload_n 0, 1) := by decide +kernel
theorem dX9_step_21 : decode cX9_step 21 = .ok (.getfield 37, 3) := by decide +kernel
theorem dX9_step_24 : decode cX9_step 24 = .ok (.aload_n 0, 1) := by decide +kernel
theorem dX9_step_25 : decode cX9_step 25 = .ok (.getfield 16, 3) := by decide +kernel
theorem dX9_step_28 : decode cX9_step 28 = .ok (.iload_n 2, 1) := by decide +kernel
theorem dX9_step_29 : decode cX9_step 29 = .ok (.iload 4, 2) := by decide +kernel
theorem dX9_step_31 : decode cX9_step 31 = .ok (.invokevirtual 224, 3) := by decide +kernel
theorem dX9_step_34 : decode cX9_step 34 = .ok (.istore 7, 2) := by decide +kernel
theorem dX9_step_36 : decode cX9_step 36 = .ok (.iload 6, 2) := by decide +kernel
theorem dX9_step_38 : decode cX9_step 38 = .ok (.ifCond .lt 23, 3) := by decide +kernel
theorem dX9_step_41 : decode cX9_step 41 = .ok (.iload 6, 2) := by decide +kernel
theorem dX9_step_43 : decode cX9_step 43 = .ok (.iload 7, 2) := by decide +kernel
theorem dX9_step_45 : decode cX9_step 45 = .ok (.if_icmp .ge 16, 3) := by decide +kernel
theorem dX9_step_48 : decode cX9_step 48 = .ok (.iload 6, 2) := by decide +kernel
theorem dX9_step_50 : decode cX9_step 50 = .ok (.aload_n 0, 1) := by decide +kernel
theorem dX9_step_51 : decode cX9_step 51 = .ok (.getfield 37, 3) := by decide +kernel
theorem dX9_step_54 : decode cX9_step 54 = .ok (.getfield 228, 3) := by decide +kernel
theorem dX9_step_57 : decode cX9_step 57 = .ok (.arraylength, 1) := by decide +kernel
theorem dX9_step_58 : decode cX9_step 58 = .ok (.if_icmp .lt 9, 3) := by decide +kernel
theorem dX9_step_61 : decode cX9_step 61 = .ok (.aload_n 0, 1) := by decide +kernel
theorem dX9_step_62 : decode cX9_step 62 = .ok (.iconst 1, 1) := by decide +kernel
theorem dX9_step_63 : decode cX9_step 63 = .ok (.invokevirtual 56, 3) := by decide +kernel
theorem dX9_step_66 : decode cX9_step 66 = .ok (.ireturn, 1) := by decide +kernel
theorem dX9_step_67 : decode cX9_step 67 = .ok (.aload_n 0, 1) := by decide +kernel
theorem dX9_step_68 : decode cX9_step 68 = .ok (.getfield 37, 3) := by decide +kernel
theorem dX9_step_71 : decode cX9_step 71 = .ok (.getfield 228, 3) := by decide +kernel
theorem dX9_step_74 : decode cX9_step 74 = .ok (.iload 6, 2) := by decide +kernel
theorem dX9_step_76 : decode cX9_step 76 = .ok (.iaload, 1) := by decide +kernel
theorem dX9_step_77 : decode cX9_step 77 = .ok (.ireturn, 1) := by decide +kernel
theorem dX9_off_0 : decode cX9_off 0 = .ok (.aload_n 0, 1) := by decide +kernel
theorem dX9_off_1 : decode cX9_off 1 = .ok (.iload_n 1, 1) := by decide +kernel
theorem dX9_off_2 : decode cX9_off 2 = .ok (.iload_n 2, 1) := by decide +kernel
theorem dX9_off_3 : decode cX9_off 3 = .ok (.iload_n 3, 1) := by decide +kernel
theorem dX9_off_4 : decode cX9_off 4 = .ok (.invokevirtual 232, 3) := by decide +kernel
theorem dX9_off_7 : decode cX9_off 7 = .ok (.istore 5, 2) := by decide +kernel
theorem dX9_off_9 : decode cX9_off 9 = .ok (.iload 5, 2) := by decide +kernel
theorem dX9_off_11 : decode cX9_off 11 = .ok (.ifCond .ne 14, 3) := by decide +kernel
theorem dX9_off_14 : decode cX9_off 14 = .ok (.iload 4, 2) := by decide +kernel
theorem dX9_off_16 : decode cX9_off 16 = .ok (.invokestatic 236, 3) := by decide +kernel
theorem dX9_off_19 : decode cX9_off 19 = .ok (.ifCond .ne 6, 3) := by decide +kernel
theorem dX9_off_22 : decode cX9_off 22 = .ok (.iconst 2, 1) := by decide +kernel
theorem dX9_off_23 : decode cX9_off 23 = .ok (.istore 5, 2) := by decide +kernel
theorem dX9_off_25 : decode cX9_off 25 = .ok (.aload_n 0, 1) := by decide +kernel
theorem dX9_off_26 : decode cX9_off 26 = .ok (.iload 5, 2) := by decide +kernel
theorem dX9_off_28 : decode cX9_off 28 = .ok (.invokevirtual 103, 3) := by decide +kernel
theorem dX9_off_31 : decode cX9_off 31 = .ok (.ifCond .eq 5, 3) := by decide +kernel
theorem dX9_off_34 : decode cX9_off 34 = .ok (.iconst (-1), 1) := by decide +kernel
theorem dX9_off_35 : decode cX9_off 35 = .ok (.ireturn, 1) := by decide +kernel
theorem dX9_off_36 : decode cX9_off 36 = .ok (.aload_n 0, 1) := by decide +kernel
theorem dX9_off_37 : decode cX9_off 37 = .ok (.getfield 37, 3) := by decide +kernel
theorem dX9_off_40 : decode cX9_off 40 = .ok (.aload_n 0, 1) := by decide +kernel
theorem dX9_off_41 : decode cX9_off 41 = .ok (.getfield 16, 3) := by decide +kernel
theorem dX9_off_44 : decode cX9_off 44 = .ok (.aload_n 0, 1) := by decide +kernel
theorem dX9_off_45 : decode cX9_off 45 = .ok (.getfield 30, 3) := by decide +kernel
theorem dX9_off_48 : decode cX9_off 48 = .ok (.iload_n 1, 1) := by decide +kernel
theorem dX9_off_49 : decode cX9_off 49 = .ok (.iload_n 3, 1) := by decide +kernel
theorem dX9_off_50 : decode cX9_off 50 = .ok (.iload 4, 2) := by decide +kernel
theorem dX9_off_52 : decode cX9_off 52 = .ok (.iconst 0, 1) := by decide +kernel
theorem dX9_off_53 : decode cX9_off 53 = .ok (.invokevirtual 239, 3) := by decide +kernel
theorem dX9_off_56 : decode cX9_off 56 = .ok (.iconst (-1), 1) := by decide +kernel
theorem dX9_off_57 : decode cX9_off 57 = .ok (.istore 6, 2) := by decide +kernel
theorem dX9_off_59 : decode cX9_off 59 = .ok (.iconst 0, 1) := by decide +kernel
theorem dX9_off_60 : decode cX9_off 60 = .ok (.istore 7, 2) := by decide +kernel
theorem dX9_off_62 : decode cX9_off 62 = .ok (.iload 7, 2) := by decide +kernel
theorem dX9_off_64 : decode cX9_off 64 = .ok (.iload 4, 2) := by decide +kernel
theorem dX9_off_66 : decode cX9_off 66 = .ok (.if_icmp .gt 68, 3) := by decide +kernel
theorem dX9_off_69 : decode cX9_off 69 = .ok (.iload 6, 2) := by decide +kernel
theorem dX9_off_71 : decode cX9_off 71 = .ok (.iconst (-1), 1) := by decide +kernel
theorem dX9_off_72 : decode cX9_off 72 = .ok (.if_icmp .eq 27, 3) := by decide +kernel
theorem dX9_off_75 : decode cX9_off 75 = .ok (.aload_n 0, 1) := by decide +kernel
theorem dX9_off_76 : decode cX9_off 76 = .ok (.getfield 37, 3) := by decide +kernel
theorem dX9_off_79 : decode cX9_off 79 = .ok (.iload_n 2, 1) := by decide +kernel
theorem dX9_off_80 : decode cX9_off 80 = .ok (.iload 7, 2) := by decide +kernel
theorem dX9_off_82 : decode cX9_off 82 = .ok (.invokevirtual 216, 3) := by decide +kernel
theorem dX9_off_85 : decode cX9_off 85 = .ok (.aload_n 0, 1) := by decide +kernel
theorem dX9_off_86 : decode cX9_off 86 = .ok (.getfield 37, 3) := by decide +kernel
theorem dX9_off_89 : decode cX9_off 89 = .ok (.iload_n 2, 1) := by decide +kernel
theorem dX9_off_90 : decode cX9_off 90 = .ok (.iload 6, 2) := by decide +kernel
theorem dX9_off_92 : decode cX9_off 92 = .ok (.invokevirtual 216, 3) := by decide +kernel
theorem dX9_off_95 : decode cX9_off 95 = .ok (.lcmp, 1) := by decide +kernel
theorem dX9_off_96 : decode cX9_off 96 = .ok (.ifCond .ge 7, 3) := by decide +kernel
theorem dX9_off_99 : decode cX9_off 99 = .ok (.iconst 1, 1) := by decide +kernel
theorem dX9_off_100 : decode cX9_off 100 = .ok (.goto 4, 3) := by decide +kernel
theorem dX9_off_103 : decode cX9_off 103 = .ok (.iconst 0, 1) := by decide +kernel
theorem dX9_off_104 : decode cX9_off 104 = .ok (.istore 8, 2) := by decide +kernel
theorem dX9_off_106 : decode cX9_off 106 = .ok (.aload_n 0, 1) := by decide +kernel
theorem dX9_off_107 : decode cX9_off 107 = .ok (.getfield 37, 3) := by decide +kernel
theorem dX9_off_110 : decode cX9_off 110 = .ok (.iload_n 2, 1) := by decide +kernel
theorem dX9_off_111 : decode cX9_off 111 = .ok (.iload 7, 2) := by decide +kernel
theorem dX9_off_113 : decode cX9_off 113 = .ok (.invokevirtual 243, 3) := by decide +kernel
theorem dX9_off_116 : decode cX9_off 116 = .ok (.ifCond .eq 12, 3) := by decide +kernel
theorem dX9_off_119 : decode cX9_off 119 = .ok (.iload 8, 2) := by decide +kernel
theorem dX9_off_121 : decode cX9_off 121 = .ok (.ifCond .eq 7, 3) := by decide +kernel
theorem dX9_off_124 : decode cX9_off 124 = .ok (.iload 7, 2) := by decide +kernel
theorem dX9_off_126 : decode cX9_off 126 = .ok (.istore 6, 2) := by decide +kernel
theorem dX9_off_128 : decode cX9_off 128 = .ok (.iinc 7 1, 3) := by decide +kernel
theorem dX9_off_131 : decode cX9_off 131 = .ok (.goto (-69), 3) := by decide +kernel
theorem dX9_off_134 : decode cX9_off 134 = .ok (.iload 6, 2) := by decide +kernel
theorem dX9_off_136 : decode cX9_off 136 = .ok (.iconst (-1), 1) := by decide +kernel
theorem dX9_off_137 : decode cX9_off 137 = .ok (.if_icmp .ne 12, 3) := by decide +kernel
theorem dX9_off_140 : decode cX9_off 140 = .ok (.aload_n 0, 1) := by decide +kernel
theorem dX9_off_141 : decode cX9_off 141 = .ok (.bipush 6, 2) := by decide +kernel
theorem dX9_off_143 : decode cX9_off 143 = .ok (.invokevirtual 56, 3) := by decide +kernel
theorem dX9_off_146 : decode cX9_off 146 = .ok (.goto 5, 3) := by decide +kernel
theorem dX9_off_149 : decode cX9_off 149 = .ok (.iload 6, 2) := by decide +kernel
theorem dX9_off_151 : decode cX9_off 151 = .ok (.ireturn, 1) := by decide +kernel
theorem dX9_placesTrouble_0 : decode cX9_placesTrouble 0 = .ok (.aload_n 0, 1) := by decide +kernel
theorem dX9_placesTrouble_1 : decode cX9_placesTrouble 1 = .ok (.getfield 16, 3) := by decide +kernel
theorem dX9_placesTrouble_4 : decode cX9_placesTrouble 4 = .ok (.iload_n 1, 1) := by decide +kernel
theorem dX9_placesTrouble_5 : decode cX9_placesTrouble 5 = .ok (.invokevirtual 141, 3) := by decide +kernel
theorem dX9_placesTrouble_8 : decode cX9_placesTrouble 8 = .ok (.ifCond .eq 29, 3) := by decide +kernel
theorem dX9_placesTrouble_11 : decode cX9_placesTrouble 11 = .ok (.aload_n 0, 1) := by decide +kernel
theorem dX9_placesTrouble_12 : decode cX9_placesTrouble 12 = .ok (.getfield 16, 3) := by decide +kernel
theorem dX9_placesTrouble_15 : decode cX9_placesTrouble 15 = .ok (.iload_n 2, 1) := by decide +kernel
theorem dX9_placesTrouble_16 : decode cX9_placesTrouble 16 = .ok (.invokevirtual 247, 3) := by decide +kernel
theorem dX9_placesTrouble_19 : decode cX9_placesTrouble 19 = .ok (.ifCond .eq 18, 3) := by decide +kernel
theorem dX9_placesTrouble_22 : decode cX9_placesTrouble 22 = .ok (.aload_n 0, 1) := by decide +kernel
theorem dX9_placesTrouble_23 : decode cX9_placesTrouble 23 = .ok (.getfield 16, 3) := by decide +kernel
theorem dX9_placesTrouble_26 : decode cX9_placesTrouble 26 = .ok (.iload_n 3, 1) := by decide +kernel
theorem dX9_placesTrouble_27 : decode cX9_placesTrouble 27 = .ok (.invokevirtual 247, 3) := by decide +kernel
theorem dX9_placesTrouble_30 : decode cX9_placesTrouble 30 = .ok (.ifCond .eq 7, 3) := by decide +kernel
theorem dX9_placesTrouble_33 : decode cX9_placesTrouble 33 = .ok (.iconst 1, 1) := by decide +kernel
theorem dX9_placesTrouble_34 : decode cX9_placesTrouble 34 = .ok (.goto 4, 3) := by decide +kernel
theorem dX9_placesTrouble_37 : decode cX9_placesTrouble 37 = .ok (.iconst 0, 1) := by decide +kernel
theorem dX9_placesTrouble_38 : decode cX9_placesTrouble 38 = .ok (.istore 4, 2) := by decide +kernel
theorem dX9_placesTrouble_40 : decode cX9_placesTrouble 40 = .ok (.iload 4, 2) := by decide +kernel
theorem dX9_placesTrouble_42 : decode cX9_placesTrouble 42 = .ok (.ifCond .eq 7, 3) := by decide +kernel
theorem dX9_placesTrouble_45 : decode cX9_placesTrouble 45 = .ok (.iconst 0, 1) := by decide +kernel
theorem dX9_placesTrouble_46 : decode cX9_placesTrouble 46 = .ok (.goto 4, 3) := by decide +kernel
theorem dX9_placesTrouble_49 : decode cX9_placesTrouble 49 = .ok (.iconst 1, 1) := by decide +kernel
theorem dX9_placesTrouble_50 : decode cX9_placesTrouble 50 = .ok (.ireturn, 1) := by decide +kernel
theorem dX9_isTill_0 : decode cX9_isTill 0 = .ok (.iload_n 0, 1) := by decide +kernel
theorem dX9_isTill_1 : decode cX9_isTill 1 = .ok (.ifCond .lt 14, 3) := by decide +kernel
theorem dX9_isTill_4 : decode cX9_isTill 4 = .ok (.iload_n 0, 1) := by decide +kernel
theorem dX9_isTill_5 : decode cX9_isTill 5 = .ok (.sipush 400, 3) := by decide +kernel
theorem dX9_isTill_8 : decode cX9_isTill 8 = .ok (.if_icmp .gt 7, 3) := by decide +kernel
theorem dX9_isTill_11 : decode cX9_isTill 11 = .ok (.iconst 1, 1) := by decide +kernel
theorem dX9_isTill_12 : decode cX9_isTill 12 = .ok (.goto 4, 3) := by decide +kernel
theorem dX9_isTill_15 : decode cX9_isTill 15 = .ok (.iconst 0, 1) := by decide +kernel
theorem dX9_isTill_16 : decode cX9_isTill 16 = .ok (.ireturn, 1) := by decide +kernel
theorem dX9_wayTrouble_0 : decode cX9_wayTrouble 0 = .ok (.aload_n 0, 1) := by decide +kernel
theorem dX9_wayTrouble_1 : decode cX9_wayTrouble 1 = .ok (.iload_n 1, 1) := by decide +kernel
theorem dX9_wayTrouble_2 : decode cX9_wayTrouble 2 = .ok (.iload_n 2, 1) := by decide +kernel
theorem dX9_wayTrouble_3 : decode cX9_wayTrouble 3 = .ok (.iload_n 3, 1) := by decide +kernel
theorem dX9_wayTrouble_4 : decode cX9_wayTrouble 4 = .ok (.invokevirtual 232, 3) := by decide +kernel
theorem dX9_wayTrouble_7 : decode cX9_wayTrouble 7 = .ok (.istore 6, 2) := by decide +kernel
theorem dX9_wayTrouble_9 : decode cX9_wayTrouble 9 = .ok (.iload 6, 2) := by decide +kernel
theorem dX9_wayTrouble_11 : decode cX9_wayTrouble 11 = .ok (.ifCond .eq 6, 3) := by decide +kernel
theorem dX9_wayTrouble_14 : decode cX9_wayTrouble 14 = .ok (.iload 6, 2) := by decide +kernel
theorem dX9_wayTrouble_16 : decode cX9_wayTrouble 16 = .ok (.ireturn, 1) := by decide +kernel
theorem dX9_wayTrouble_17 : decode cX9_wayTrouble 17 = .ok (.iload 5, 2) := by decide +kernel
theorem dX9_wayTrouble_19 : decode cX9_wayTrouble 19 = .ok (.invokestatic 236, 3) := by decide +kernel
theorem dX9_wayTrouble_22 : decode cX9_wayTrouble 22 = .ok (.ifCond .eq 15, 3) := by decide +kernel
theorem dX9_wayTrouble_25 : decode cX9_wayTrouble 25 = .ok (.iload 4, 2) := by decide +kernel
theorem dX9_wayTrouble_27 : decode cX9_wayTrouble 27 = .ok (.ifCond .lt 10, 3) := by decide +kernel
theorem dX9_wayTrouble_30 : decode cX9_wayTrouble 30 = .ok (.iload 4, 2) := by decide +kernel
theorem dX9_wayTrouble_32 : decode cX9_wayTrouble 32 = .ok (.iload 5, 2) := by decide +kernel
theorem dX9_wayTrouble_34 : decode cX9_wayTrouble 34 = .ok (.if_icmp .le 5, 3) := by decide +kernel
theorem dX9_wayTrouble_37 : decode cX9_wayTrouble 37 = .ok (.iconst 2, 1) := by decide +kernel
theorem dX9_wayTrouble_38 : decode cX9_wayTrouble 38 = .ok (.ireturn, 1) := by decide +kernel
theorem dX9_wayTrouble_39 : decode cX9_wayTrouble 39 = .ok (.aload_n 0, 1) := by decide +kernel
theorem dX9_wayTrouble_40 : decode cX9_wayTrouble 40 = .ok (.getfield 37, 3) := by decide +kernel
theorem dX9_wayTrouble_43 : decode cX9_wayTrouble 43 = .ok (.aload_n 0, 1) := by decide +kernel
theorem dX9_wayTrouble_44 : decode cX9_wayTrouble 44 = .ok (.getfield 16, 3) := by decide +kernel
theorem dX9_wayTrouble_47 : decode cX9_wayTrouble 47 = .ok (.aload_n 0, 1) := by decide +kernel
theorem dX9_wayTrouble_48 : decode cX9_wayTrouble 48 = .ok (.getfield 30, 3) := by decide +kernel
theorem dX9_wayTrouble_51 : decode cX9_wayTrouble 51 = .ok (.iload_n 1, 1) := by decide +kernel
theorem dX9_wayTrouble_52 : decode cX9_wayTrouble 52 = .ok (.iload_n 3, 1) := by decide +kernel
theorem dX9_wayTrouble_53 : decode cX9_wayTrouble 53 = .ok (.iload 5, 2) := by decide +kernel
theorem dX9_wayTrouble_55 : decode cX9_wayTrouble 55 = .ok (.iload 4, 2) := by decide +kernel
theorem dX9_wayTrouble_57 : decode cX9_wayTrouble 57 = .ok (.invokevirtual 239, 3) := by decide +kernel
theorem dX9_wayTrouble_60 : decode cX9_wayTrouble 60 = .ok (.aload_n 0, 1) := by decide +kernel
theorem dX9_wayTrouble_61 : decode cX9_wayTrouble 61 = .ok (.getfield 37, 3) := by decide +kernel
theorem dX9_wayTrouble_64 : decode cX9_wayTrouble 64 = .ok (.iload_n 2, 1) := by decide +kernel
theorem dX9_wayTrouble_65 : decode cX9_wayTrouble 65 = .ok (.iload 4, 2) := by decide +kernel
theorem dX9_wayTrouble_67 : decode cX9_wayTrouble 67 = .ok (.invokevirtual 243, 3) := by decide +kernel
theorem dX9_wayTrouble_70 : decode cX9_wayTrouble 70 = .ok (.ifCond .eq 7, 3) := by decide +kernel
theorem dX9_wayTrouble_73 : decode cX9_wayTrouble 73 = .ok (.iconst 0, 1) := by decide +kernel
theorem dX9_wayTrouble_74 : decode cX9_wayTrouble 74 = .ok (.goto 5, 3) := by decide +kernel
theorem dX9_wayTrouble_77 : decode cX9_wayTrouble 77 = .ok (.bipush 6, 2) := by decide +kernel
theorem dX9_wayTrouble_79 : decode cX9_wayTrouble 79 = .ok (.ireturn, 1) := by decide +kernel
theorem dX9_fits_0 : decode cX9_fits 0 = .ok (.aload_n 0, 1) := by decide +kernel
theorem dX9_fits_1 : decode cX9_fits 1 = .ok (.getfield 16, 3) := by decide +kernel
theorem dX9_fits_4 : decode cX9_fits 4 = .ok (.iload_n 1, 1) := by decide +kernel
theorem dX9_fits_5 : decode cX9_fits 5 = .ok (.invokevirtual 250, 3) := by decide +kernel
theorem dX9_fits_8 : decode cX9_fits 8 = .ok (.ifCond .ne 9, 3) := by decide +kernel
theorem dX9_fits_11 : decode cX9_fits 11 = .ok (.aload_n 0, 1) := by decide +kernel
theorem dX9_fits_12 : decode cX9_fits 12 = .ok (.iconst 1, 1) := by decide +kernel
theorem dX9_fits_13 : decode cX9_fits 13 = .ok (.invokevirtual 56, 3) := by decide +kernel
theorem dX9_fits_16 : decode cX9_fits 16 = .ok (.ireturn, 1) := by decide +kernel
theorem dX9_fits_17 : decode cX9_fits 17 = .ok (.aload_n 0, 1) := by decide +kernel
theorem dX9_fits_18 : decode cX9_fits 18 = .ok (.aload_n 0, 1) := by decide +kernel
theorem dX9_fits_19 : decode cX9_fits 19 = .ok (.getfield 30, 3) := by decide +kernel
theorem dX9_fits_22 : decode cX9_fits 22 = .ok (.aload_n 0, 1) := by decide +kernel
theorem dX9_fits_23 : decode cX9_fits 23 = .ok (.getfield 16, 3) := by decide +kernel
theorem dX9_fits_26 : decode cX9_fits 26 = .ok (.iload_n 1, 1) := by decide +kernel
theorem dX9_fits_27 : decode cX9_fits 27 = .ok (.invokevirtual 253, 3) := by decide +kernel
theorem dX9_fits_30 : decode cX9_fits 30 = .ok (.invokevirtual 89, 3) := by decide +kernel
theorem dX9_fits_33 : decode cX9_fits 33 = .ok (.ireturn, 1) := by decide +kernel
theorem dX9_fit_0 : decode cX9_fit 0 = .ok (.aload_n 0, 1) := by decide +kernel
theorem dX9_fit_1 : decode cX9_fit 1 = .ok (.getfield 16, 3) := by decide +kernel
theorem dX9_fit_4 : decode cX9_fit 4 = .ok (.iload_n 1, 1) := by decide +kernel
theorem dX9_fit_5 : decode cX9_fit 5 = .ok (.invokevirtual 250, 3) := by decide +kernel
theorem dX9_fit_8 : decode cX9_fit 8 = .ok (.ifCond .eq 7, 3) := by decide +kernel
theorem dX9_fit_11 : decode cX9_fit 11 = .ok (.iload_n 2, 1) := by decide +kernel
theorem dX9_fit_12 : decode cX9_fit 12 = .ok (.ifCond .ge 9, 3) := by decide +kernel
theorem dX9_fit_15 : decode cX9_fit 15 = .ok (.aload_n 0, 1) := by decide +kernel
theorem dX9_fit_16 : decode cX9_fit 16 = .ok (.iconst 1, 1) := by decide +kernel
theorem dX9_fit_17 : decode cX9_fit 17 = .ok (.invokevirtual 56, 3) := by decide +kernel
theorem dX9_fit_20 : decode cX9_fit 20 = .ok (.ireturn, 1) := by decide +kernel
theorem dX9_fit_21 : decode cX9_fit 21 = .ok (.aload_n 0, 1) := by decide +kernel
theorem dX9_fit_22 : decode cX9_fit 22 = .ok (.getfield 30, 3) := by decide +kernel
theorem dX9_fit_25 : decode cX9_fit 25 = .ok (.aload_n 0, 1) := by decide +kernel
theorem dX9_fit_26 : decode cX9_fit 26 = .ok (.getfield 16, 3) := by decide +kernel
theorem dX9_fit_29 : decode cX9_fit 29 = .ok (.iload_n 1, 1) := by decide +kernel
theorem dX9_fit_30 : decode cX9_fit 30 = .ok (.iload_n 2, 1) := by decide +kernel
theorem dX9_fit_31 : decode cX9_fit 31 = .ok (.invokevirtual 257, 3) := by decide +kernel
theorem dX9_fit_34 : decode cX9_fit 34 = .ok (.istore_n 3, 1) := by decide +kernel
theorem dX9_fit_35 : decode cX9_fit 35 = .ok (.iload_n 3, 1) := by decide +kernel
theorem dX9_fit_36 : decode cX9_fit 36 = .ok (.iconst (-1), 1) := by decide +kernel
theorem dX9_fit_37 : decode cX9_fit 37 = .ok (.if_icmp .ne 11, 3) := by decide +kernel
theorem dX9_fit_40 : decode cX9_fit 40 = .ok (.aload_n 0, 1) := by decide +kernel
theorem dX9_fit_41 : decode cX9_fit 41 = .ok (.iconst 1, 1) := by decide +kernel
theorem dX9_fit_42 : decode cX9_fit 42 = .ok (.invokevirtual 56, 3) := by decide +kernel
theorem dX9_fit_45 : decode cX9_fit 45 = .ok (.goto 8, 3) := by decide +kernel
theorem dX9_fit_48 : decode cX9_fit 48 = .ok (.aload_n 0, 1) := by decide +kernel
theorem dX9_fit_49 : decode cX9_fit 49 = .ok (.iload_n 3, 1) := by decide +kernel
theorem dX9_fit_50 : decode cX9_fit 50 = .ok (.invokevirtual 89, 3) := by decide +kernel
theorem dX9_fit_53 : decode cX9_fit 53 = .ok (.ireturn, 1) := by decide +kernel
theorem dX9_lies_0 : decode cX9_lies 0 = .ok (.aload_n 0, 1) := by decide +kernel
theorem dX9_lies_1 : decode cX9_lies 1 = .ok (.getfield 16, 3) := by decide +kernel
theorem dX9_lies_4 : decode cX9_lies 4 = .ok (.invokevirtual 260, 3) := by decide +kernel
theorem dX9_lies_7 : decode cX9_lies 7 = .ok (.ifCond .ne 9, 3) := by decide +kernel
theorem dX9_lies_10 : decode cX9_lies 10 = .ok (.aload_n 0, 1) := by decide +kernel
theorem dX9_lies_11 : decode cX9_lies 11 = .ok (.iconst 1, 1) := by decide +kernel
theorem dX9_lies_12 : decode cX9_lies 12 = .ok (.invokevirtual 56, 3) := by decide +kernel
theorem dX9_lies_15 : decode cX9_lies 15 = .ok (.ireturn, 1) := by decide +kernel
theorem dX9_lies_16 : decode cX9_lies 16 = .ok (.iconst 0, 1) := by decide +kernel
theorem dX9_lies_17 : decode cX9_lies 17 = .ok (.istore_n 1, 1) := by decide +kernel
theorem dX9_lies_18 : decode cX9_lies 18 = .ok (.iconst 0, 1) := by decide +kernel
theorem dX9_lies_19 : decode cX9_lies 19 = .ok (.istore_n 2, 1) := by decide +kernel
theorem dX9_lies_20 : decode cX9_lies 20 = .ok (.iload_n 2, 1) := by decide +kernel
theorem dX9_lies_21 : decode cX9_lies 21 = .ok (.aload_n 0, 1) := by decide +kernel
theorem dX9_lies_22 : decode cX9_lies 22 = .ok (.getfield 16, 3) := by decide +kernel
theorem dX9_lies_25 : decode cX9_lies 25 = .ok (.getfield 264, 3) := by decide +kernel
theorem dX9_lies_28 : decode cX9_lies 28 = .ok (.if_icmp .ge 32, 3) := by decide +kernel
theorem dX9_lies_31 : decode cX9_lies 31 = .ok (.aload_n 0, 1) := by decide +kernel
theorem dX9_lies_32 : decode cX9_lies 32 = .ok (.getfield 30, 3) := by decide +kernel
theorem dX9_lies_35 : decode cX9_lies 35 = .ok (.aload_n 0, 1) := by decide +kernel
theorem dX9_lies_36 : decode cX9_lies 36 = .ok (.getfield 16, 3) := by decide +kernel
theorem dX9_lies_39 : decode cX9_lies 39 = .ok (.iload_n 2, 1) := by decide +kernel
theorem dX9_lies_40 : decode cX9_lies 40 = .ok (.iconst 0, 1) := by decide +kernel
theorem dX9_lies_41 : decode cX9_lies 41 = .ok (.invokevirtual 257, 3) := by decide +kernel
theorem dX9_lies_44 : decode cX9_lies 44 = .ok (.iconst (-1), 1) := by decide +kernel
theorem dX9_lies_45 : decode cX9_lies 45 = .ok (.if_icmp .ne 9, 3) := by decide +kernel
theorem dX9_lies_48 : decode cX9_lies 48 = .ok (.iload_n 1, 1) := by decide +kernel
theorem dX9_lies_49 : decode cX9_lies 49 = .ok (.iconst 1, 1) := by decide +kernel
theorem dX9_lies_50 : decode cX9_lies 50 = .ok (.iload_n 2, 1) := by decide +kernel
theorem dX9_lies_51 : decode cX9_lies 51 = .ok (.ishl, 1) := by decide +kernel
theorem dX9_lies_52 : decode cX9_lies 52 = .ok (.ior, 1) := by decide +kernel
theorem dX9_lies_53 : decode cX9_lies 53 = .ok (.istore_n 1, 1) := by decide +kernel
theorem dX9_lies_54 : decode cX9_lies 54 = .ok (.iinc 2 1, 3) := by decide +kernel
theorem dX9_lies_57 : decode cX9_lies 57 = .ok (.goto (-37), 3) := by decide +kernel
theorem dX9_lies_60 : decode cX9_lies 60 = .ok (.aload_n 0, 1) := by decide +kernel
theorem dX9_lies_61 : decode cX9_lies 61 = .ok (.iload_n 1, 1) := by decide +kernel
theorem dX9_lies_62 : decode cX9_lies 62 = .ok (.invokevirtual 89, 3) := by decide +kernel
theorem dX9_lies_65 : decode cX9_lies 65 = .ok (.ireturn, 1) := by decide +kernel
theorem dX9_day_0 : decode cX9_day 0 = .ok (.aload_n 0, 1) := by decide +kernel
theorem dX9_day_1 : decode cX9_day 1 = .ok (.getfield 16, 3) := by decide +kernel
theorem dX9_day_4 : decode cX9_day 4 = .ok (.iload_n 1, 1) := by decide +kernel
theorem dX9_day_5 : decode cX9_day 5 = .ok (.invokevirtual 141, 3) := by decide +kernel
theorem dX9_day_8 : decode cX9_day 8 = .ok (.ifCond .eq 14, 3) := by decide +kernel
theorem dX9_day_11 : decode cX9_day 11 = .ok (.aload_n 0, 1) := by decide +kernel
theorem dX9_day_12 : decode cX9_day 12 = .ok (.getfield 16, 3) := by decide +kernel
theorem dX9_day_15 : decode cX9_day 15 = .ok (.iload_n 2, 1) := by decide +kernel
theorem dX9_day_16 : decode cX9_day 16 = .ok (.invokevirtual 247, 3) := by decide +kernel
theorem dX9_day_19 : decode cX9_day 19 = .ok (.ifCond .ne 9, 3) := by decide +kernel
theorem dX9_day_22 : decode cX9_day 22 = .ok (.aload_n 0, 1) := by decide +kernel
theorem dX9_day_23 : decode cX9_day 23 = .ok (.iconst 1, 1) := by decide +kernel
theorem dX9_day_24 : decode cX9_day 24 = .ok (.invokevirtual 56, 3) := by decide +kernel
theorem dX9_day_27 : decode cX9_day 27 = .ok (.ireturn, 1) := by decide +kernel
theorem dX9_day_28 : decode cX9_day 28 = .ok (.iload_n 3, 1) := by decide +kernel
theorem dX9_day_29 : decode cX9_day 29 = .ok (.ifCond .lt 23, 3) := by decide +kernel
theorem dX9_day_32 : decode cX9_day 32 = .ok (.iload_n 3, 1) := by decide +kernel
theorem dX9_day_33 : decode cX9_day 33 = .ok (.sipush 400, 3) := by decide +kernel
theorem dX9_day_36 : decode cX9_day 36 = .ok (.if_icmp .gt 16, 3) := by decide +kernel
theorem dX9_day_39 : decode cX9_day 39 = .ok (.iload 4, 2) := by decide +kernel
theorem dX9_day_41 : decode cX9_day 41 = .ok (.ifCond .lt 11, 3) := by decide +kernel
theorem dX9_day_44 : decode cX9_day 44 = .ok (.iload 4, 2) := by decide +kernel
theorem dX9_day_46 : decode cX9_day 46 = .ok (.ldc_w 267, 3) := by decide +kernel
theorem dX9_day_49 : decode cX9_day 49 = .ok (.if_icmp .lt 9, 3) := by decide +kernel
theorem dX9_day_52 : decode cX9_day 52 = .ok (.aload_n 0, 1) := by decide +kernel
theorem dX9_day_53 : decode cX9_day 53 = .ok (.iconst 2, 1) := by decide +kernel
theorem dX9_day_54 : decode cX9_day 54 = .ok (.invokevirtual 56, 3) := by decide +kernel
theorem dX9_day_57 : decode cX9_day 57 = .ok (.ireturn, 1) := by decide +kernel
theorem dX9_day_58 : decode cX9_day 58 = .ok (.aload_n 0, 1) := by decide +kernel
theorem dX9_day_59 : decode cX9_day 59 = .ok (.getfield 44, 3) := by decide +kernel
theorem dX9_day_62 : decode cX9_day 62 = .ok (.iload_n 1, 1) := by decide +kernel
theorem dX9_day_63 : decode cX9_day 63 = .ok (.iload_n 2, 1) := by decide +kernel
theorem dX9_day_64 : decode cX9_day 64 = .ok (.iload_n 3, 1) := by decide +kernel
theorem dX9_day_65 : decode cX9_day 65 = .ok (.invokevirtual 268, 3) := by decide +kernel
theorem dX9_day_68 : decode cX9_day 68 = .ok (.aload_n 0, 1) := by decide +kernel
theorem dX9_day_69 : decode cX9_day 69 = .ok (.getfield 44, 3) := by decide +kernel
theorem dX9_day_72 : decode cX9_day 72 = .ok (.aload_n 0, 1) := by decide +kernel
theorem dX9_day_73 : decode cX9_day 73 = .ok (.getfield 16, 3) := by decide +kernel
theorem dX9_day_76 : decode cX9_day 76 = .ok (.iload 4, 2) := by decide +kernel
theorem dX9_day_78 : decode cX9_day 78 = .ok (.invokevirtual 272, 3) := by decide +kernel
theorem dX9_day_81 : decode cX9_day 81 = .ok (.aload_n 0, 1) := by decide +kernel
theorem dX9_day_82 : decode cX9_day 82 = .ok (.aload_n 0, 1) := by decide +kernel
theorem dX9_day_83 : decode cX9_day 83 = .ok (.getfield 44, 3) := by decide +kernel
theorem dX9_day_86 : decode cX9_day 86 = .ok (.getfield 276, 3) := by decide +kernel
theorem dX9_day_89 : decode cX9_day 89 = .ok (.invokevirtual 89, 3) := by decide +kernel
theorem dX9_day_92 : decode cX9_day 92 = .ok (.ireturn, 1) := by decide +kernel
theorem dX9_go_0 : decode cX9_go 0 = .ok (.aload_n 0, 1) := by decide +kernel
theorem dX9_go_1 : decode cX9_go 1 = .ok (.getfield 44, 3) := by decide +kernel
theorem dX9_go_4 : decode cX9_go 4 = .ok (.invokevirtual 279, 3) := by decide +kernel
theorem dX9_go_7 : decode cX9_go 7 = .ok (.ifCond .eq 38, 3) := by decide +kernel
theorem dX9_go_10 : decode cX9_go 10 = .ok (.aload_n 0, 1) := by decide +kernel
theorem dX9_go_11 : decode cX9_go 11 = .ok (.getfield 16, 3) := by decide +kernel
theorem dX9_go_14 : decode cX9_go 14 = .ok (.aload_n 0, 1) := by decide +kernel
theorem dX9_go_15 : decode cX9_go 15 = .ok (.getfield 44, 3) := by decide +kernel
theorem dX9_go_18 : decode cX9_go 18 = .ok (.getfield 282, 3) := by decide +kernel
theorem dX9_go_21 : decode cX9_go 21 = .ok (.invokevirtual 141, 3) := by decide +kernel
theorem dX9_go_24 : decode cX9_go 24 = .ok (.ifCond .eq 21, 3) := by decide +kernel
theorem dX9_go_27 : decode cX9_go 27 = .ok (.aload_n 0, 1) := by decide +kernel
theorem dX9_go_28 : decode cX9_go 28 = .ok (.getfield 16, 3) := by decide +kernel
theorem dX9_go_31 : decode cX9_go 31 = .ok (.iload_n 1, 1) := by decide +kernel
theorem dX9_go_32 : decode cX9_go 32 = .ok (.invokevirtual 144, 3) := by decide +kernel
theorem dX9_go_35 : decode cX9_go 35 = .ok (.ifCond .eq 10, 3) := by decide +kernel
theorem dX9_go_38 : decode cX9_go 38 = .ok (.iload_n 2, 1) := by decide +kernel
theorem dX9_go_39 : decode cX9_go 39 = .ok (.invokestatic 157, 3) := by decide +kernel
theorem dX9_go_42 : decode cX9_go 42 = .ok (.ifCond .ne 9, 3) := by decide +kernel
theorem dX9_go_45 : decode cX9_go 45 = .ok (.aload_n 0, 1) := by decide +kernel
theorem dX9_go_46 : decode cX9_go 46 = .ok (.iconst 1, 1) := by decide +kernel
theorem dX9_go_47 : decode cX9_go 47 = .ok (.invokevirtual 56, 3) := by decide +kernel
theorem dX9_go_50 : decode cX9_go 50 = .ok (.ireturn, 1) := by decide +kernel
theorem dX9_go_51 : decode cX9_go 51 = .ok (.aload_n 0, 1) := by decide +kernel
theorem dX9_go_52 : decode cX9_go 52 = .ok (.getfield 16, 3) := by decide +kernel
theorem dX9_go_55 : decode cX9_go 55 = .ok (.getfield 108, 3) := by decide +kernel
theorem dX9_go_58 : decode cX9_go 58 = .ok (.aload_n 0, 1) := by decide +kernel
theorem dX9_go_59 : decode cX9_go 59 = .ok (.getfield 44, 3) := by decide +kernel
theorem dX9_go_62 : decode cX9_go 62 = .ok (.getfield 282, 3) := by decide +kernel
theorem dX9_go_65 : decode cX9_go 65 = .ok (.aaload, 1) := by decide +kernel
theorem dX9_go_66 : decode cX9_go 66 = .ok (.astore 4, 2) := by decide +kernel
theorem dX9_go_68 : decode cX9_go 68 = .ok (.aload_n 0, 1) := by decide +kernel
theorem dX9_go_69 : decode cX9_go 69 = .ok (.getfield 16, 3) := by decide +kernel
theorem dX9_go_72 : decode cX9_go 72 = .ok (.getfield 112, 3) := by decide +kernel
theorem dX9_go_75 : decode cX9_go 75 = .ok (.iload_n 1, 1) := by decide +kernel
theorem dX9_go_76 : decode cX9_go 76 = .ok (.aaload, 1) := by decide +kernel
theorem dX9_go_77 : decode cX9_go 77 = .ok (.astore 5, 2) := by decide +kernel
theorem dX9_go_79 : decode cX9_go 79 = .ok (.aload 4, 2) := by decide +kernel
theorem dX9_go_81 : decode cX9_go 81 = .ok (.iload_n 3, 1) := by decide +kernel
theorem dX9_go_82 : decode cX9_go 82 = .ok (.invokevirtual 147, 3) := by decide +kernel
theorem dX9_go_85 : decode cX9_go 85 = .ok (.ifCond .ne 9, 3) := by decide +kernel
theorem dX9_go_88 : decode cX9_go 88 = .ok (.aload_n 0, 1) := by decide +kernel
theorem dX9_go_89 : decode cX9_go 89 = .ok (.iconst 2, 1) := by decide +kernel
theorem dX9_go_90 : decode cX9_go 90 = .ok (.invokevirtual 56, 3) := by decide +kernel
theorem dX9_go_93 : decode cX9_go 93 = .ok (.ireturn, 1) := by decide +kernel
theorem dX9_go_94 : decode cX9_go 94 = .ok (.aload 5, 2) := by decide +kernel
theorem dX9_go_96 : decode cX9_go 96 = .ok (.iload_n 2, 1) := by decide +kernel
theorem dX9_go_97 : decode cX9_go 97 = .ok (.invokevirtual 284, 3) := by decide +kernel
theorem dX9_go_100 : decode cX9_go 100 = .ok (.aload_n 0, 1) := by decide +kernel
theorem dX9_go_101 : decode cX9_go 101 = .ok (.getfield 44, 3) := by decide +kernel
theorem dX9_go_104 : decode cX9_go 104 = .ok (.getfield 287, 3) := by decide +kernel
theorem dX9_go_107 : decode cX9_go 107 = .ok (.getfield 291, 3) := by decide +kernel
theorem dX9_go_110 : decode cX9_go 110 = .ok (.if_icmp .eq 9, 3) := by decide +kernel
theorem dX9_go_113 : decode cX9_go 113 = .ok (.aload_n 0, 1) := by decide +kernel
theorem dX9_go_114 : decode cX9_go 114 = .ok (.iconst 5, 1) := by decide +kernel
theorem dX9_go_115 : decode cX9_go 115 = .ok (.invokevirtual 56, 3) := by decide +kernel
theorem dX9_go_118 : decode cX9_go 118 = .ok (.ireturn, 1) := by decide +kernel
theorem dX9_go_119 : decode cX9_go 119 = .ok (.aload_n 0, 1) := by decide +kernel
theorem dX9_go_120 : decode cX9_go 120 = .ok (.getfield 44, 3) := by decide +kernel
theorem dX9_go_123 : decode cX9_go 123 = .ok (.getfield 287, 3) := by decide +kernel
theorem dX9_go_126 : decode cX9_go 126 = .ok (.getfield 296, 3) := by decide +kernel
theorem dX9_go_129 : decode cX9_go 129 = .ok (.aload 5, 2) := by decide +kernel
theorem dX9_go_131 : decode cX9_go 131 = .ok (.iload_n 3, 1) := by decide +kernel
theorem dX9_go_132 : decode cX9_go 132 = .ok (.invokevirtual 152, 3) := by decide +kernel
theorem dX9_go_135 : decode cX9_go 135 = .ok (.iadd, 1) := by decide +kernel
theorem dX9_go_136 : decode cX9_go 136 = .ok (.istore 6, 2) := by decide +kernel
theorem dX9_go_138 : decode cX9_go 138 = .ok (.iload 6, 2) := by decide +kernel
theorem dX9_go_140 : decode cX9_go 140 = .ok (.sipush 999, 3) := by decide +kernel
theorem dX9_go_143 : decode cX9_go 143 = .ok (.if_icmp .le 9, 3) := by decide +kernel
theorem dX9_go_146 : decode cX9_go 146 = .ok (.aload_n 0, 1) := by decide +kernel
theorem dX9_go_147 : decode cX9_go 147 = .ok (.iconst 3, 1) := by decide +kernel
theorem dX9_go_148 : decode cX9_go 148 = .ok (.invokevirtual 56, 3) := by decide +kernel
theorem dX9_go_151 : decode cX9_go 151 = .ok (.ireturn, 1) := by decide +kernel
theorem dX9_go_152 : decode cX9_go 152 = .ok (.aload_n 0, 1) := by decide +kernel
theorem dX9_go_153 : decode cX9_go 153 = .ok (.getfield 44, 3) := by decide +kernel
theorem dX9_go_156 : decode cX9_go 156 = .ok (.invokevirtual 299, 3) := by decide +kernel
theorem dX9_go_159 : decode cX9_go 159 = .ok (.aload_n 0, 1) := by decide +kernel
theorem dX9_go_160 : decode cX9_go 160 = .ok (.getfield 16, 3) := by decide +kernel
theorem dX9_go_163 : decode cX9_go 163 = .ok (.aload_n 0, 1) := by decide +kernel
theorem dX9_go_164 : decode cX9_go 164 = .ok (.getfield 44, 3) := by decide +kernel
theorem dX9_go_167 : decode cX9_go 167 = .ok (.getfield 287, 3) := by decide +kernel
theorem dX9_go_170 : decode cX9_go 170 = .ok (.getfield 296, 3) := by decide +kernel
theorem dX9_go_173 : decode cX9_go 173 = .ok (.invokevirtual 302, 3) := by decide +kernel
theorem dX9_go_176 : decode cX9_go 176 = .ok (.istore 7, 2) := by decide +kernel
theorem dX9_go_178 : decode cX9_go 178 = .ok (.aload_n 0, 1) := by decide +kernel
theorem dX9_go_179 : decode cX9_go 179 = .ok (.getfield 16, 3) := by decide +kernel
theorem dX9_go_182 : decode cX9_go 182 = .ok (.iload 7, 2) := by decide +kernel
theorem dX9_go_184 : decode cX9_go 184 = .ok (.invokevirtual 160, 3) := by decide +kernel
theorem dX9_go_187 : decode cX9_go 187 = .ok (.ifCond .eq 56, 3) := by decide +kernel
theorem dX9_go_190 : decode cX9_go 190 = .ok (.aload_n 0, 1) := by decide +kernel
theorem dX9_go_191 : decode cX9_go 191 = .ok (.getfield 44, 3) := by decide +kernel
theorem dX9_go_194 : decode cX9_go 194 = .ok (.iload 7, 2) := by decide +kernel
theorem dX9_go_196 : decode cX9_go 196 = .ok (.invokevirtual 305, 3) := by decide +kernel
theorem dX9_go_199 : decode cX9_go 199 = .ok (.ifCond .eq 44, 3) := by decide +kernel
theorem dX9_go_202 : decode cX9_go 202 = .ok (.aload_n 0, 1) := by decide +kernel
theorem dX9_go_203 : decode cX9_go 203 = .ok (.getfield 30, 3) := by decide +kernel
theorem dX9_go_206 : decode cX9_go 206 = .ok (.aload 4, 2) := by decide +kernel
theorem dX9_go_208 : decode cX9_go 208 = .ok (.aload 5, 2) := by decide +kernel
theorem dX9_go_210 : decode cX9_go 210 = .ok (.iload_n 2, 1) := by decide +kernel
theorem dX9_go_211 : decode cX9_go 211 = .ok (.aload_n 0, 1) := by decide +kernel
theorem dX9_go_212 : decode cX9_go 212 = .ok (.getfield 16, 3) := by decide +kernel
theorem dX9_go_215 : decode cX9_go 215 = .ok (.getfield 116, 3) := by decide +kernel
theorem dX9_go_218 : decode cX9_go 218 = .ok (.iload 7, 2) := by decide +kernel
theorem dX9_go_220 : decode cX9_go 220 = .ok (.aaload, 1) := by decide +kernel
theorem dX9_go_221 : decode cX9_go 221 = .ok (.iload_n 3, 1) := by decide +kernel
theorem dX9_go_222 : decode cX9_go 222 = .ok (.invokevirtual 120, 3) := by decide +kernel
theorem dX9_go_225 : decode cX9_go 225 = .ok (.pop2, 1) := by decide +kernel
theorem dX9_go_226 : decode cX9_go 226 = .ok (.aload_n 0, 1) := by decide +kernel
theorem dX9_go_227 : decode cX9_go 227 = .ok (.getfield 44, 3) := by decide +kernel
theorem dX9_go_230 : decode cX9_go 230 = .ok (.getfield 287, 3) := by decide +kernel
theorem dX9_go_233 : decode cX9_go 233 = .ok (.aload_n 0, 1) := by decide +kernel
theorem dX9_go_234 : decode cX9_go 234 = .ok (.getfield 30, 3) := by decide +kernel
theorem dX9_go_237 : decode cX9_go 237 = .ok (.getfield 124, 3) := by decide +kernel
theorem dX9_go_240 : decode cX9_go 240 = .ok (.invokevirtual 308, 3) := by decide +kernel
theorem dX9_go_243 : decode cX9_go 243 = .ok (.aload_n 0, 1) := by decide +kernel
theorem dX9_go_244 : decode cX9_go 244 = .ok (.getfield 44, 3) := by decide +kernel
theorem dX9_go_247 : decode cX9_go 247 = .ok (.getfield 287, 3) := by decide +kernel
theorem dX9_go_250 : decode cX9_go 250 = .ok (.aload 5, 2) := by decide +kernel
theorem dX9_go_252 : decode cX9_go 252 = .ok (.iload_n 2, 1) := by decide +kernel
theorem dX9_go_253 : decode cX9_go 253 = .ok (.invokevirtual 312, 3) := by decide +kernel
theorem dX9_go_256 : decode cX9_go 256 = .ok (.putfield 291, 3) := by decide +kernel
theorem dX9_go_259 : decode cX9_go 259 = .ok (.aload_n 0, 1) := by decide +kernel
theorem dX9_go_260 : decode cX9_go 260 = .ok (.getfield 44, 3) := by decide +kernel
theorem dX9_go_263 : decode cX9_go 263 = .ok (.getfield 287, 3) := by decide +kernel
theorem dX9_go_266 : decode cX9_go 266 = .ok (.iload 6, 2) := by decide +kernel
theorem dX9_go_268 : decode cX9_go 268 = .ok (.putfield 296, 3) := by decide +kernel
theorem dX9_go_271 : decode cX9_go 271 = .ok (.aload_n 0, 1) := by decide +kernel
theorem dX9_go_272 : decode cX9_go 272 = .ok (.iload 6, 2) := by decide +kernel
theorem dX9_go_274 : decode cX9_go 274 = .ok (.invokevirtual 89, 3) := by decide +kernel
theorem dX9_go_277 : decode cX9_go 277 = .ok (.ireturn, 1) := by decide +kernel
theorem dX9_stay_0 : decode cX9_stay 0 = .ok (.aload_n 0, 1) := by decide +kernel
theorem dX9_stay_1 : decode cX9_stay 1 = .ok (.aload_n 0, 1) := by decide +kernel
theorem dX9_stay_2 : decode cX9_stay 2 = .ok (.iload_n 1, 1) := by decide +kernel
theorem dX9_stay_3 : decode cX9_stay 3 = .ok (.invokevirtual 315, 3) := by decide +kernel
theorem dX9_stay_6 : decode cX9_stay 6 = .ok (.invokevirtual 103, 3) := by decide +kernel
theorem dX9_stay_9 : decode cX9_stay 9 = .ok (.ifCond .eq 5, 3) := by decide +kernel
theorem dX9_stay_12 : decode cX9_stay 12 = .ok (.iconst 0, 1) := by decide +kernel
theorem dX9_stay_13 : decode cX9_stay 13 = .ok (.ireturn, 1) := by decide +kernel
theorem dX9_stay_14 : decode cX9_stay 14 = .ok (.aload_n 0, 1) := by decide +kernel
theorem dX9_stay_15 : decode cX9_stay 15 = .ok (.getfield 44, 3) := by decide +kernel
theorem dX9_stay_18 : decode cX9_stay 18 = .ok (.invokevirtual 299, 3) := by decide +kernel
theorem dX9_stay_21 : decode cX9_stay 21 = .ok (.aload_n 0, 1) := by decide +kernel
theorem dX9_stay_22 : decode cX9_stay 22 = .ok (.getfield 16, 3) := by decide +kernel
theorem dX9_stay_25 : decode cX9_stay 25 = .ok (.aload_n 0, 1) := by decide +kernel
theorem dX9_stay_26 : decode cX9_stay 26 = .ok (.getfield 16, 3) := by decide +kernel
theorem dX9_stay_29 : decode cX9_stay 29 = .ok (.getfield 108, 3) := by decide +kernel
theorem dX9_stay_32 : decode cX9_stay 32 = .ok (.aload_n 0, 1) := by decide +kernel
theorem dX9_stay_33 : decode cX9_stay 33 = .ok (.getfield 44, 3) := by decide +kernel
theorem dX9_stay_36 : decode cX9_stay 36 = .ok (.getfield 282, 3) := by decide +kernel
theorem dX9_stay_39 : decode cX9_stay 39 = .ok (.aaload, 1) := by decide +kernel
theorem dX9_stay_40 : decode cX9_stay 40 = .ok (.aload_n 0, 1) := by decide +kernel
theorem dX9_stay_41 : decode cX9_stay 41 = .ok (.getfield 44, 3) := by decide +kernel
theorem dX9_stay_44 : decode cX9_stay 44 = .ok (.getfield 287, 3) := by decide +kernel
theorem dX9_stay_47 : decode cX9_stay 47 = .ok (.getfield 291, 3) := by decide +kernel
theorem dX9_stay_50 : decode cX9_stay 50 = .ok (.invokevirtual 318, 3) := by decide +kernel
theorem dX9_stay_53 : decode cX9_stay 53 = .ok (.i2l, 1) := by decide +kernel
theorem dX9_stay_54 : decode cX9_stay 54 = .ok (.lstore_n 2, 1) := by decide +kernel
theorem dX9_stay_55 : decode cX9_stay 55 = .ok (.iconst 0, 1) := by decide +kernel
theorem dX9_stay_56 : decode cX9_stay 56 = .ok (.istore 4, 2) := by decide +kernel
theorem dX9_stay_58 : decode cX9_stay 58 = .ok (.iload 4, 2) := by decide +kernel
theorem dX9_stay_60 : decode cX9_stay 60 = .ok (.iload_n 1, 1) := by decide +kernel
theorem dX9_stay_61 : decode cX9_stay 61 = .ok (.if_icmp .ge 72, 3) := by decide +kernel
theorem dX9_stay_64 : decode cX9_stay 64 = .ok (.aload_n 0, 1) := by decide +kernel
theorem dX9_stay_65 : decode cX9_stay 65 = .ok (.getfield 44, 3) := by decide +kernel
theorem dX9_stay_68 : decode cX9_stay 68 = .ok (.aload_n 0, 1) := by decide +kernel
theorem dX9_stay_69 : decode cX9_stay 69 = .ok (.getfield 16, 3) := by decide +kernel
theorem dX9_stay_72 : decode cX9_stay 72 = .ok (.aload_n 0, 1) := by decide +kernel
theorem dX9_stay_73 : decode cX9_stay 73 = .ok (.getfield 44, 3) := by decide +kernel
theorem dX9_stay_76 : decode cX9_stay 76 = .ok (.getfield 287, 3) := by decide +kernel
theorem dX9_stay_79 : decode cX9_stay 79 = .ok (.getfield 296, 3) := by decide +kernel
theorem dX9_stay_82 : decode cX9_stay 82 = .ok (.invokevirtual 302, 3) := by decide +kernel
theorem dX9_stay_85 : decode cX9_stay 85 = .ok (.invokevirtual 305, 3) := by decide +kernel
theorem dX9_stay_88 : decode cX9_stay 88 = .ok (.ifCond .eq 23, 3) := by decide +kernel
theorem dX9_stay_91 : decode cX9_stay 91 = .ok (.aload_n 0, 1) := by decide +kernel
theorem dX9_stay_92 : decode cX9_stay 92 = .ok (.getfield 44, 3) := by decide +kernel
theorem dX9_stay_95 : decode cX9_stay 95 = .ok (.getfield 287, 3) := by decide +kernel
theorem dX9_stay_98 : decode cX9_stay 98 = .ok (.getfield 322, 3) := by decide +kernel
theorem dX9_stay_101 : decode cX9_stay 101 = .ok (.iconst 0, 1) := by decide +kernel
theorem dX9_stay_102 : decode cX9_stay 102 = .ok (.dup2, 1) := by decide +kernel
theorem dX9_stay_103 : decode cX9_stay 103 = .ok (.laload, 1) := by decide +kernel
theorem dX9_stay_104 : decode cX9_stay 104 = .ok (.lload_n 2, 1) := by decide +kernel
theorem dX9_stay_105 : decode cX9_stay 105 = .ok (.ldc2_w 128, 3) := by decide +kernel
theorem dX9_stay_108 : decode cX9_stay 108 = .ok (.lmul, 1) := by decide +kernel
theorem dX9_stay_109 : decode cX9_stay 109 = .ok (.ladd, 1) := by decide +kernel
theorem dX9_stay_110 : decode cX9_stay 110 = .ok (.lastore, 1) := by decide +kernel
theorem dX9_stay_111 : decode cX9_stay 111 = .ok (.aload_n 0, 1) := by decide +kernel
theorem dX9_stay_112 : decode cX9_stay 112 = .ok (.getfield 44, 3) := by decide +kernel
theorem dX9_stay_115 : decode cX9_stay 115 = .ok (.getfield 287, 3) := by decide +kernel
theorem dX9_stay_118 : decode cX9_stay 118 = .ok (.dup, 1) := by decide +kernel
theorem dX9_stay_119 : decode cX9_stay 119 = .ok (.getfield 296, 3) := by decide +kernel
theorem dX9_stay_122 : decode cX9_stay 122 = .ok (.iconst 1, 1) := by decide +kernel
theorem dX9_stay_123 : decode cX9_stay 123 = .ok (.iadd, 1) := by decide +kernel
theorem dX9_stay_124 : decode cX9_stay 124 = .ok (.putfield 296, 3) := by decide +kernel
theorem dX9_stay_127 : decode cX9_stay 127 = .ok (.iinc 4 1, 3) := by decide +kernel
theorem dX9_stay_130 : decode cX9_stay 130 = .ok (.goto (-72), 3) := by decide +kernel
theorem dX9_stay_133 : decode cX9_stay 133 = .ok (.iconst 1, 1) := by decide +kernel
theorem dX9_stay_134 : decode cX9_stay 134 = .ok (.ireturn, 1) := by decide +kernel
theorem dX9_stayTrouble_0 : decode cX9_stayTrouble 0 = .ok (.aload_n 0, 1) := by decide +kernel
theorem dX9_stayTrouble_1 : decode cX9_stayTrouble 1 = .ok (.getfield 44, 3) := by decide +kernel
theorem dX9_stayTrouble_4 : decode cX9_stayTrouble 4 = .ok (.invokevirtual 279, 3) := by decide +kernel
theorem dX9_stayTrouble_7 : decode cX9_stayTrouble 7 = .ok (.ifCond .eq 20, 3) := by decide +kernel
theorem dX9_stayTrouble_10 : decode cX9_stayTrouble 10 = .ok (.aload_n 0, 1) := by decide +kernel
theorem dX9_stayTrouble_11 : decode cX9_stayTrouble 11 = .ok (.getfield 16, 3) := by decide +kernel
theorem dX9_stayTrouble_14 : decode cX9_stayTrouble 14 = .ok (.aload_n 0, 1) := by decide +kernel
theorem dX9_stayTrouble_15 : decode cX9_stayTrouble 15 = .ok (.getfield 44, 3) := by decide +kernel
theorem dX9_stayTrouble_18 : decode cX9_stayTrouble 18 = .ok (.getfield 282, 3) := by decide +kernel
theorem dX9_stayTrouble_21 : decode cX9_stayTrouble 21 = .ok (.invokevirtual 141, 3) := by decide +kernel
theorem dX9_stayTrouble_24 : decode cX9_stayTrouble 24 = .ok (.ifCond .ne 5, 3) := by decide +kernel
theorem dX9_stayTrouble_27 : decode cX9_stayTrouble 27 = .ok (.iconst 1, 1) := by decide +kernel
theorem dX9_stayTrouble_28 : decode cX9_stayTrouble 28 = .ok (.ireturn, 1) := by decide +kernel
theorem dX9_stayTrouble_29 : decode cX9_stayTrouble 29 = .ok (.iload_n 1, 1) := by decide +kernel
theorem dX9_stayTrouble_30 : decode cX9_stayTrouble 30 = .ok (.iconst 1, 1) := by decide +kernel
theorem dX9_stayTrouble_31 : decode cX9_stayTrouble 31 = .ok (.if_icmp .lt 9, 3) := by decide +kernel
theorem dX9_stayTrouble_34 : decode cX9_stayTrouble 34 = .ok (.iload_n 1, 1) := by decide +kernel
theorem dX9_stayTrouble_35 : decode cX9_stayTrouble 35 = .ok (.bipush 60, 2) := by decide +kernel
theorem dX9_stayTrouble_37 : decode cX9_stayTrouble 37 = .ok (.if_icmp .le 5, 3) := by decide +kernel
theorem dX9_stayTrouble_40 : decode cX9_stayTrouble 40 = .ok (.iconst 2, 1) := by decide +kernel
theorem dX9_stayTrouble_41 : decode cX9_stayTrouble 41 = .ok (.ireturn, 1) := by decide +kernel
theorem dX9_stayTrouble_42 : decode cX9_stayTrouble 42 = .ok (.aload_n 0, 1) := by decide +kernel
theorem dX9_stayTrouble_43 : decode cX9_stayTrouble 43 = .ok (.getfield 16, 3) := by decide +kernel
theorem dX9_stayTrouble_46 : decode cX9_stayTrouble 46 = .ok (.aload_n 0, 1) := by decide +kernel
theorem dX9_stayTrouble_47 : decode cX9_stayTrouble 47 = .ok (.getfield 44, 3) := by decide +kernel
theorem dX9_stayTrouble_50 : decode cX9_stayTrouble 50 = .ok (.getfield 287, 3) := by decide +kernel
theorem dX9_stayTrouble_53 : decode cX9_stayTrouble 53 = .ok (.getfield 291, 3) := by decide +kernel
theorem dX9_stayTrouble_56 : decode cX9_stayTrouble 56 = .ok (.invokevirtual 325, 3) := by decide +kernel
theorem dX9_stayTrouble_59 : decode cX9_stayTrouble 59 = .ok (.ifCond .ne 5, 3) := by decide +kernel
theorem dX9_stayTrouble_62 : decode cX9_stayTrouble 62 = .ok (.iconst 5, 1) := by decide +kernel
theorem dX9_stayTrouble_63 : decode cX9_stayTrouble 63 = .ok (.ireturn, 1) := by decide +kernel
theorem dX9_stayTrouble_64 : decode cX9_stayTrouble 64 = .ok (.aload_n 0, 1) := by decide +kernel
theorem dX9_stayTrouble_65 : decode cX9_stayTrouble 65 = .ok (.getfield 44, 3) := by decide +kernel
theorem dX9_stayTrouble_68 : decode cX9_stayTrouble 68 = .ok (.getfield 287, 3) := by decide +kernel
theorem dX9_stayTrouble_71 : decode cX9_stayTrouble 71 = .ok (.getfield 296, 3) := by decide +kernel
theorem dX9_stayTrouble_74 : decode cX9_stayTrouble 74 = .ok (.iload_n 1, 1) := by decide +kernel
theorem dX9_stayTrouble_75 : decode cX9_stayTrouble 75 = .ok (.iadd, 1) := by decide +kernel
theorem dX9_stayTrouble_76 : decode cX9_stayTrouble 76 = .ok (.sipush 999, 3) := by decide +kernel
theorem dX9_stayTrouble_79 : decode cX9_stayTrouble 79 = .ok (.if_icmp .le 7, 3) := by decide +kernel
theorem dX9_stayTrouble_82 : decode cX9_stayTrouble 82 = .ok (.iconst 3, 1) := by decide +kernel
theorem dX9_stayTrouble_83 : decode cX9_stayTrouble 83 = .ok (.goto 4, 3) := by decide +kernel
theorem dX9_stayTrouble_86 : decode cX9_stayTrouble 86 = .ok (.iconst 0, 1) := by decide +kernel
theorem dX9_stayTrouble_87 : decode cX9_stayTrouble 87 = .ok (.ireturn, 1) := by decide +kernel
theorem dX9_got_0 : decode cX9_got 0 = .ok (.aload_n 0, 1) := by decide +kernel
theorem dX9_got_1 : decode cX9_got 1 = .ok (.getfield 44, 3) := by decide +kernel
theorem dX9_got_4 : decode cX9_got 4 = .ok (.invokevirtual 279, 3) := by decide +kernel
theorem dX9_got_7 : decode cX9_got 7 = .ok (.ifCond .eq 10, 3) := by decide +kernel
theorem dX9_got_10 : decode cX9_got 10 = .ok (.iload_n 1, 1) := by decide +kernel
theorem dX9_got_11 : decode cX9_got 11 = .ok (.invokestatic 95, 3) := by decide +kernel
theorem dX9_got_14 : decode cX9_got 14 = .ok (.ifCond .ne 10, 3) := by decide +kernel
theorem dX9_got_17 : decode cX9_got 17 = .ok (.aload_n 0, 1) := by decide +kernel
theorem dX9_got_18 : decode cX9_got 18 = .ok (.iconst 1, 1) := by decide +kernel
theorem dX9_got_19 : decode cX9_got 19 = .ok (.invokevirtual 56, 3) := by decide +kernel
theorem dX9_got_22 : decode cX9_got 22 = .ok (.i2l, 1) := by decide +kernel
theorem dX9_got_23 : decode cX9_got 23 = .ok (.lreturn, 1) := by decide +kernel
theorem dX9_got_24 : decode cX9_got 24 = .ok (.aload_n 0, 1) := by decide +kernel
theorem dX9_got_25 : decode cX9_got 25 = .ok (.iconst 0, 1) := by decide +kernel
theorem dX9_got_26 : decode cX9_got 26 = .ok (.putfield 92, 3) := by decide +kernel
theorem dX9_got_29 : decode cX9_got 29 = .ok (.aload_n 0, 1) := by decide +kernel
theorem dX9_got_30 : decode cX9_got 30 = .ok (.getfield 44, 3) := by decide +kernel
theorem dX9_got_33 : decode cX9_got 33 = .ok (.getfield 287, 3) := by decide +kernel
theorem dX9_got_36 : decode cX9_got 36 = .ok (.getfield 322, 3) := by decide +kernel
theorem dX9_got_39 : decode cX9_got 39 = .ok (.iload_n 1, 1) := by decide +kernel
theorem dX9_got_40 : decode cX9_got 40 = .ok (.laload, 1) := by decide +kernel
theorem dX9_got_41 : decode cX9_got 41 = .ok (.ldc2_w 128, 3) := by decide +kernel
theorem dX9_got_44 : decode cX9_got 44 = .ok (.iload_n 2, 1) := by decide +kernel
theorem dX9_got_45 : decode cX9_got 45 = .ok (.invokestatic 130, 3) := by decide +kernel
theorem dX9_got_48 : decode cX9_got 48 = .ok (.lreturn, 1) := by decide +kernel
theorem dX9_wetness_0 : decode cX9_wetness 0 = .ok (.aload_n 0, 1) := by decide +kernel
theorem dX9_wetness_1 : decode cX9_wetness 1 = .ok (.getfield 44, 3) := by decide +kernel
theorem dX9_wetness_4 : decode cX9_wetness 4 = .ok (.invokevirtual 279, 3) := by decide +kernel
theorem dX9_wetness_7 : decode cX9_wetness 7 = .ok (.ifCond .eq 20, 3) := by decide +kernel
theorem dX9_wetness_10 : decode cX9_wetness 10 = .ok (.aload_n 0, 1) := by decide +kernel
theorem dX9_wetness_11 : decode cX9_wetness 11 = .ok (.getfield 16, 3) := by decide +kernel
theorem dX9_wetness_14 : decode cX9_wetness 14 = .ok (.aload_n 0, 1) := by decide +kernel
theorem dX9_wetness_15 : decode cX9_wetness 15 = .ok (.getfield 44, 3) := by decide +kernel
theorem dX9_wetness_18 : decode cX9_wetness 18 = .ok (.getfield 282, 3) := by decide +kernel
theorem dX9_wetness_21 : decode cX9_wetness 21 = .ok (.invokevirtual 141, 3) := by decide +kernel
theorem dX9_wetness_24 : decode cX9_wetness 24 = .ok (.ifCond .ne 10, 3) := by decide +kernel
theorem dX9_wetness_27 : decode cX9_wetness 27 = .ok (.aload_n 0, 1) := by decide +kernel
theorem dX9_wetness_28 : decode cX9_wetness 28 = .ok (.iconst 1, 1) := by decide +kernel
theorem dX9_wetness_29 : decode cX9_wetness 29 = .ok (.invokevirtual 56, 3) := by decide +kernel
theorem dX9_wetness_32 : decode cX9_wetness 32 = .ok (.i2l, 1) := by decide +kernel
theorem dX9_wetness_33 : decode cX9_wetness 33 = .ok (.lreturn, 1) := by decide +kernel
theorem dX9_wetness_34 : decode cX9_wetness 34 = .ok (.aload_n 0, 1) := by decide +kernel
theorem dX9_wetness_35 : decode cX9_wetness 35 = .ok (.iconst 0, 1) := by decide +kernel
theorem dX9_wetness_36 : decode cX9_wetness 36 = .ok (.putfield 92, 3) := by decide +kernel
theorem dX9_wetness_39 : decode cX9_wetness 39 = .ok (.aload_n 0, 1) := by decide +kernel
theorem dX9_wetness_40 : decode cX9_wetness 40 = .ok (.getfield 44, 3) := by decide +kernel
theorem dX9_wetness_43 : decode cX9_wetness 43 = .ok (.getfield 287, 3) := by decide +kernel
theorem dX9_wetness_46 : decode cX9_wetness 46 = .ok (.invokevirtual 328, 3) := by decide +kernel
theorem dX9_wetness_49 : decode cX9_wetness 49 = .ok (.aload_n 0, 1) := by decide +kernel
theorem dX9_wetness_50 : decode cX9_wetness 50 = .ok (.getfield 16, 3) := by decide +kernel
theorem dX9_wetness_53 : decode cX9_wetness 53 = .ok (.getfield 108, 3) := by decide +kernel
theorem dX9_wetness_56 : decode cX9_wetness 56 = .ok (.aload_n 0, 1) := by decide +kernel
theorem dX9_wetness_57 : decode cX9_wetness 57 = .ok (.getfield 44, 3) := by decide +kernel
theorem dX9_wetness_60 : decode cX9_wetness 60 = .ok (.getfield 282, 3) := by decide +kernel
theorem dX9_wetness_63 : decode cX9_wetness 63 = .ok (.aaload, 1) := by decide +kernel
theorem dX9_wetness_64 : decode cX9_wetness 64 = .ok (.invokestatic 332, 3) := by decide +kernel
theorem dX9_wetness_67 : decode cX9_wetness 67 = .ok (.lsub, 1) := by decide +kernel
theorem dX9_wetness_68 : decode cX9_wetness 68 = .ok (.lstore_n 2, 1) := by decide +kernel
theorem dX9_wetness_69 : decode cX9_wetness 69 = .ok (.lload_n 2, 1) := by decide +kernel
theorem dX9_wetness_70 : decode cX9_wetness 70 = .ok (.lconst 0, 1) := by decide +kernel
theorem dX9_wetness_71 : decode cX9_wetness 71 = .ok (.invokestatic 336, 3) := by decide +kernel
theorem dX9_wetness_74 : decode cX9_wetness 74 = .ok (.ldc2_w 128, 3) := by decide +kernel
theorem dX9_wetness_77 : decode cX9_wetness 77 = .ok (.iload_n 1, 1) := by decide +kernel
theorem dX9_wetness_78 : decode cX9_wetness 78 = .ok (.invokestatic 130, 3) := by decide +kernel
theorem dX9_wetness_81 : decode cX9_wetness 81 = .ok (.lreturn, 1) := by decide +kernel
theorem dX9_soaked_0 : decode cX9_soaked 0 = .ok (.aload_n 0, 1) := by decide +kernel
theorem dX9_soaked_1 : decode cX9_soaked 1 = .ok (.getfield 44, 3) := by decide +kernel
theorem dX9_soaked_4 : decode cX9_soaked 4 = .ok (.invokevirtual 279, 3) := by decide +kernel
theorem dX9_soaked_7 : decode cX9_soaked 7 = .ok (.ifCond .eq 20, 3) := by decide +kernel
theorem dX9_soaked_10 : decode cX9_soaked 10 = .ok (.aload_n 0, 1) := by decide +kernel
theorem dX9_soaked_11 : decode cX9_soaked 11 = .ok (.getfield 16, 3) := by decide +kernel
theorem dX9_soaked_14 : decode cX9_soaked 14 = .ok (.aload_n 0, 1) := by decide +kernel
theorem dX9_soaked_15 : decode cX9_soaked 15 = .ok (.getfield 44, 3) := by decide +kernel
theorem dX9_soaked_18 : decode cX9_soaked 18 = .ok (.getfield 282, 3) := by decide +kernel
theorem dX9_soaked_21 : decode cX9_soaked 21 = .ok (.invokevirtual 141, 3) := by decide +kernel
theorem dX9_soaked_24 : decode cX9_soaked 24 = .ok (.ifCond .ne 9, 3) := by decide +kernel
theorem dX9_soaked_27 : decode cX9_soaked 27 = .ok (.aload_n 0, 1) := by decide +kernel
theorem dX9_soaked_28 : decode cX9_soaked 28 = .ok (.iconst 1, 1) := by decide +kernel
theorem dX9_soaked_29 : decode cX9_soaked 29 = .ok (.invokevirtual 56, 3) := by decide +kernel
theorem dX9_soaked_32 : decode cX9_soaked 32 = .ok (.ireturn, 1) := by decide +kernel
theorem dX9_soaked_33 : decode cX9_soaked 33 = .ok (.aload_n 0, 1) := by decide +kernel
theorem dX9_soaked_34 : decode cX9_soaked 34 = .ok (.getfield 16, 3) := by decide +kernel
theorem dX9_soaked_37 : decode cX9_soaked 37 = .ok (.getfield 108, 3) := by decide +kernel
theorem dX9_soaked_40 : decode cX9_soaked 40 = .ok (.aload_n 0, 1) := by decide +kernel
theorem dX9_soaked_41 : decode cX9_soaked 41 = .ok (.getfield 44, 3) := by decide +kernel
theorem dX9_soaked_44 : decode cX9_soaked 44 = .ok (.getfield 282, 3) := by decide +kernel
theorem dX9_soaked_47 : decode cX9_soaked 47 = .ok (.aaload, 1) := by decide +kernel
theorem dX9_soaked_48 : decode cX9_soaked 48 = .ok (.astore_n 1, 1) := by decide +kernel
theorem dX9_soaked_49 : decode cX9_soaked 49 = .ok (.aload_n 1, 1) := by decide +kernel
theorem dX9_soaked_50 : decode cX9_soaked 50 = .ok (.getfield 167, 3) := by decide +kernel
theorem dX9_soaked_53 : decode cX9_soaked 53 = .ok (.iconst 2, 1) := by decide +kernel
theorem dX9_soaked_54 : decode cX9_soaked 54 = .ok (.if_icmp .eq 10, 3) := by decide +kernel
theorem dX9_soaked_57 : decode cX9_soaked 57 = .ok (.aload_n 0, 1) := by decide +kernel
theorem dX9_soaked_58 : decode cX9_soaked 58 = .ok (.bipush (-2), 2) := by decide +kernel
theorem dX9_soaked_60 : decode cX9_soaked 60 = .ok (.invokevirtual 89, 3) := by decide +kernel
theorem dX9_soaked_63 : decode cX9_soaked 63 = .ok (.ireturn, 1) := by decide +kernel
theorem dX9_soaked_64 : decode cX9_soaked 64 = .ok (.aload_n 0, 1) := by decide +kernel
theorem dX9_soaked_65 : decode cX9_soaked 65 = .ok (.aload_n 0, 1) := by decide +kernel
theorem dX9_soaked_66 : decode cX9_soaked 66 = .ok (.getfield 44, 3) := by decide +kernel
theorem dX9_soaked_69 : decode cX9_soaked 69 = .ok (.getfield 287, 3) := by decide +kernel
theorem dX9_soaked_72 : decode cX9_soaked 72 = .ok (.invokevirtual 328, 3) := by decide +kernel
theorem dX9_soaked_75 : decode cX9_soaked 75 = .ok (.aload_n 1, 1) := by decide +kernel
theorem dX9_soaked_76 : decode cX9_soaked 76 = .ok (.invokestatic 332, 3) := by decide +kernel
theorem dX9_soaked_79 : decode cX9_soaked 79 = .ok (.lcmp, 1) := by decide +kernel
theorem dX9_soaked_80 : decode cX9_soaked 80 = .ok (.ifCond .le 7, 3) := by decide +kernel
theorem dX9_soaked_83 : decode cX9_soaked 83 = .ok (.iconst 1, 1) := by decide +kernel
theorem dX9_soaked_84 : decode cX9_soaked 84 = .ok (.goto 4, 3) := by decide +kernel
theorem dX9_soaked_87 : decode cX9_soaked 87 = .ok (.iconst 0, 1) := by decide +kernel
theorem dX9_soaked_88 : decode cX9_soaked 88 = .ok (.invokevirtual 89, 3) := by decide +kernel
theorem dX9_soaked_91 : decode cX9_soaked 91 = .ok (.ireturn, 1) := by decide +kernel
theorem dX9_coatParts_0 : decode cX9_coatParts 0 = .ok (.aload_n 0, 1) := by decide +kernel
theorem dX9_coatParts_1 : decode cX9_coatParts 1 = .ok (.getfield 167, 3) := by decide +kernel
theorem dX9_coatParts_4 : decode cX9_coatParts 4 = .ok (.iconst 2, 1) := by decide +kernel
theorem dX9_coatParts_5 : decode cX9_coatParts 5 = .ok (.if_icmp .ne 15, 3) := by decide +kernel
theorem dX9_coatParts_8 : decode cX9_coatParts 8 = .ok (.aload_n 0, 1) := by decide +kernel
theorem dX9_coatParts_9 : decode cX9_coatParts 9 = .ok (.getfield 341, 3) := by decide +kernel
theorem dX9_coatParts_12 : decode cX9_coatParts 12 = .ok (.i2l, 1) := by decide +kernel
theorem dX9_coatParts_13 : decode cX9_coatParts 13 = .ok (.ldc2_w 128, 3) := by decide +kernel
theorem dX9_coatParts_16 : decode cX9_coatParts 16 = .ok (.lmul, 1) := by decide +kernel
theorem dX9_coatParts_17 : decode cX9_coatParts 17 = .ok (.goto 4, 3) := by decide +kernel
theorem dX9_coatParts_20 : decode cX9_coatParts 20 = .ok (.lconst 0, 1) := by decide +kernel
theorem dX9_coatParts_21 : decode cX9_coatParts 21 = .ok (.lreturn, 1) := by decide +kernel
theorem dX9_undo_0 : decode cX9_undo 0 = .ok (.aload_n 0, 1) := by decide +kernel
theorem dX9_undo_1 : decode cX9_undo 1 = .ok (.aload_n 0, 1) := by decide +kernel
theorem dX9_undo_2 : decode cX9_undo 2 = .ok (.getfield 44, 3) := by decide +kernel
theorem dX9_undo_5 : decode cX9_undo 5 = .ok (.invokevirtual 344, 3) := by decide +kernel
theorem dX9_undo_8 : decode cX9_undo 8 = .ok (.ifCond .eq 7, 3) := by decide +kernel
theorem dX9_undo_11 : decode cX9_undo 11 = .ok (.iconst 0, 1) := by decide +kernel
theorem dX9_undo_12 : decode cX9_undo 12 = .ok (.goto 5, 3) := by decide +kernel
theorem dX9_undo_15 : decode cX9_undo 15 = .ok (.bipush 6, 2) := by decide +kernel
theorem dX9_undo_17 : decode cX9_undo 17 = .ok (.invokevirtual 103, 3) := by decide +kernel
theorem dX9_undo_20 : decode cX9_undo 20 = .ok (.ifCond .ne 7, 3) := by decide +kernel
theorem dX9_undo_23 : decode cX9_undo 23 = .ok (.iconst 1, 1) := by decide +kernel
theorem dX9_undo_24 : decode cX9_undo 24 = .ok (.goto 4, 3) := by decide +kernel
theorem dX9_undo_27 : decode cX9_undo 27 = .ok (.iconst 0, 1) := by decide +kernel
theorem dX9_undo_28 : decode cX9_undo 28 = .ok (.ireturn, 1) := by decide +kernel
theorem dX9_mark_0 : decode cX9_mark 0 = .ok (.aload_n 0, 1) := by decide +kernel
theorem dX9_mark_1 : decode cX9_mark 1 = .ok (.getfield 44, 3) := by decide +kernel
theorem dX9_mark_4 : decode cX9_mark 4 = .ok (.invokevirtual 279, 3) := by decide +kernel
theorem dX9_mark_7 : decode cX9_mark 7 = .ok (.ifCond .ne 9, 3) := by decide +kernel
theorem dX9_mark_10 : decode cX9_mark 10 = .ok (.aload_n 0, 1) := by decide +kernel
theorem dX9_mark_11 : decode cX9_mark 11 = .ok (.iconst 1, 1) := by decide +kernel
theorem dX9_mark_12 : decode cX9_mark 12 = .ok (.invokevirtual 56, 3) := by decide +kernel
theorem dX9_mark_15 : decode cX9_mark 15 = .ok (.ireturn, 1) := by decide +kernel
theorem dX9_mark_16 : decode cX9_mark 16 = .ok (.aload_n 0, 1) := by decide +kernel
theorem dX9_mark_17 : decode cX9_mark 17 = .ok (.getfield 44, 3) := by decide +kernel
theorem dX9_mark_20 : decode cX9_mark 20 = .ok (.invokevirtual 347, 3) := by decide +kernel
theorem dX9_mark_23 : decode cX9_mark 23 = .ok (.istore_n 1, 1) := by decide +kernel
theorem dX9_mark_24 : decode cX9_mark 24 = .ok (.iload_n 1, 1) := by decide +kernel
theorem dX9_mark_25 : decode cX9_mark 25 = .ok (.iconst (-1), 1) := by decide +kernel
theorem dX9_mark_26 : decode cX9_mark 26 = .ok (.if_icmp .ne 11, 3) := by decide +kernel
theorem dX9_mark_29 : decode cX9_mark 29 = .ok (.aload_n 0, 1) := by decide +kernel
theorem dX9_mark_30 : decode cX9_mark 30 = .ok (.iconst 3, 1) := by decide +kernel
theorem dX9_mark_31 : decode cX9_mark 31 = .ok (.invokevirtual 56, 3) := by decide +kernel
theorem dX9_mark_34 : decode cX9_mark 34 = .ok (.goto 8, 3) := by decide +kernel
theorem dX9_mark_37 : decode cX9_mark 37 = .ok (.aload_n 0, 1) := by decide +kernel
theorem dX9_mark_38 : decode cX9_mark 38 = .ok (.iload_n 1, 1) := by decide +kernel
theorem dX9_mark_39 : decode cX9_mark 39 = .ok (.invokevirtual 89, 3) := by decide +kernel
theorem dX9_mark_42 : decode cX9_mark 42 = .ok (.ireturn, 1) := by decide +kernel
theorem dX9_back_0 : decode cX9_back 0 = .ok (.aload_n 0, 1) := by decide +kernel
theorem dX9_back_1 : decode cX9_back 1 = .ok (.aload_n 0, 1) := by decide +kernel
theorem dX9_back_2 : decode cX9_back 2 = .ok (.getfield 44, 3) := by decide +kernel
theorem dX9_back_5 : decode cX9_back 5 = .ok (.iload_n 1, 1) := by decide +kernel
theorem dX9_back_6 : decode cX9_back 6 = .ok (.invokevirtual 351, 3) := by decide +kernel
theorem dX9_back_9 : decode cX9_back 9 = .ok (.ifCond .eq 7, 3) := by decide +kernel
theorem dX9_back_12 : decode cX9_back 12 = .ok (.iconst 0, 1) := by decide +kernel
theorem dX9_back_13 : decode cX9_back 13 = .ok (.goto 4, 3) := by decide +kernel
theorem dX9_back_16 : decode cX9_back 16 = .ok (.iconst 1, 1) := by decide +kernel
theorem dX9_back_17 : decode cX9_back 17 = .ok (.invokevirtual 103, 3) := by decide +kernel
theorem dX9_back_20 : decode cX9_back 20 = .ok (.ifCond .ne 7, 3) := by decide +kernel
theorem dX9_back_23 : decode cX9_back 23 = .ok (.iconst 1, 1) := by decide +kernel
theorem dX9_back_24 : decode cX9_back 24 = .ok (.goto 4, 3) := by decide +kernel
theorem dX9_back_27 : decode cX9_back 27 = .ok (.iconst 0, 1) := by decide +kernel
theorem dX9_back_28 : decode cX9_back 28 = .ok (.ireturn, 1) := by decide +kernel
theorem dX9_walker_0 : decode cX9_walker 0 = .ok (.aload_n 0, 1) := by decide +kernel
theorem dX9_walker_1 : decode cX9_walker 1 = .ok (.getfield 16, 3) := by decide +kernel
theorem dX9_walker_4 : decode cX9_walker 4 = .ok (.iload_n 1, 1) := by decide +kernel
theorem dX9_walker_5 : decode cX9_walker 5 = .ok (.invokevirtual 141, 3) := by decide +kernel
theorem dX9_walker_8 : decode cX9_walker 8 = .ok (.ifCond .eq 13, 3) := by decide +kernel
theorem dX9_walker_11 : decode cX9_walker 11 = .ok (.iload_n 2, 1) := by decide +kernel
theorem dX9_walker_12 : decode cX9_walker 12 = .ok (.ifCond .lt 9, 3) := by decide +kernel
theorem dX9_walker_15 : decode cX9_walker 15 = .ok (.iload_n 2, 1) := by decide +kernel
theorem dX9_walker_16 : decode cX9_walker 16 = .ok (.bipush 6, 2) := by decide +kernel
theorem dX9_walker_18 : decode cX9_walker 18 = .ok (.if_icmp .le 9, 3) := by decide +kernel
theorem dX9_walker_21 : decode cX9_walker 21 = .ok (.aload_n 0, 1) := by decide +kernel
theorem dX9_walker_22 : decode cX9_walker 22 = .ok (.iconst 1, 1) := by decide +kernel
theorem dX9_walker_23 : decode cX9_walker 23 = .ok (.invokevirtual 56, 3) := by decide +kernel
theorem dX9_walker_26 : decode cX9_walker 26 = .ok (.ireturn, 1) := by decide +kernel
theorem dX9_walker_27 : decode cX9_walker 27 = .ok (.aload_n 0, 1) := by decide +kernel
theorem dX9_walker_28 : decode cX9_walker 28 = .ok (.aload_n 0, 1) := by decide +kernel
theorem dX9_walker_29 : decode cX9_walker 29 = .ok (.getfield 16, 3) := by decide +kernel
theorem dX9_walker_32 : decode cX9_walker 32 = .ok (.getfield 108, 3) := by decide +kernel
theorem dX9_walker_35 : decode cX9_walker 35 = .ok (.iload_n 1, 1) := by decide +kernel
theorem dX9_walker_36 : decode cX9_walker 36 = .ok (.aaload, 1) := by decide +kernel
theorem dX9_walker_37 : decode cX9_walker 37 = .ok (.iload_n 2, 1) := by decide +kernel
theorem dX9_walker_38 : decode cX9_walker 38 = .ok (.invokevirtual 354, 3) := by decide +kernel
theorem dX9_walker_41 : decode cX9_walker 41 = .ok (.invokevirtual 89, 3) := by decide +kernel
theorem dX9_walker_44 : decode cX9_walker 44 = .ok (.ireturn, 1) := by decide +kernel
theorem dX9_road_0 : decode cX9_road 0 = .ok (.aload_n 0, 1) := by decide +kernel
theorem dX9_road_1 : decode cX9_road 1 = .ok (.getfield 16, 3) := by decide +kernel
theorem dX9_road_4 : decode cX9_road 4 = .ok (.iload_n 1, 1) := by decide +kernel
theorem dX9_road_5 : decode cX9_road 5 = .ok (.invokevirtual 144, 3) := by decide +kernel
theorem dX9_road_8 : decode cX9_road 8 = .ok (.ifCond .eq 12, 3) := by decide +kernel
theorem dX9_road_11 : decode cX9_road 11 = .ok (.iload_n 2, 1) := by decide +kernel
theorem dX9_road_12 : decode cX9_road 12 = .ok (.ifCond .lt 8, 3) := by decide +kernel
theorem dX9_road_15 : decode cX9_road 15 = .ok (.iload_n 2, 1) := by decide +kernel
theorem dX9_road_16 : decode cX9_road 16 = .ok (.iconst 4, 1) := by decide +kernel
theorem dX9_road_17 : decode cX9_road 17 = .ok (.if_icmp .le 9, 3) := by decide +kernel
theorem dX9_road_20 : decode cX9_road 20 = .ok (.aload_n 0, 1) := by decide +kernel
theorem dX9_road_21 : decode cX9_road 21 = .ok (.iconst 1, 1) := by decide +kernel
theorem dX9_road_22 : decode cX9_road 22 = .ok (.invokevirtual 56, 3) := by decide +kernel
theorem dX9_road_25 : decode cX9_road 25 = .ok (.ireturn, 1) := by decide +kernel
theorem dX9_road_26 : decode cX9_road 26 = .ok (.aload_n 0, 1) := by decide +kernel
theorem dX9_road_27 : decode cX9_road 27 = .ok (.aload_n 0, 1) := by decide +kernel
theorem dX9_road_28 : decode cX9_road 28 = .ok (.getfield 16, 3) := by decide +kernel
theorem dX9_road_31 : decode cX9_road 31 = .ok (.getfield 112, 3) := by decide +kernel
theorem dX9_road_34 : decode cX9_road 34 = .ok (.iload_n 1, 1) := by decide +kernel
theorem dX9_road_35 : decode cX9_road 35 = .ok (.aaload, 1) := by decide +kernel
theorem dX9_road_36 : decode cX9_road 36 = .ok (.iload_n 2, 1) := by decide +kernel
theorem dX9_road_37 : decode cX9_road 37 = .ok (.invokevirtual 357, 3) := by decide +kernel
theorem dX9_road_40 : decode cX9_road 40 = .ok (.invokevirtual 89, 3) := by decide +kernel
theorem dX9_road_43 : decode cX9_road 43 = .ok (.ireturn, 1) := by decide +kernel
theorem dX9_led_0 : decode cX9_led 0 = .ok (.iconst 0, 1) := by decide +kernel
theorem dX9_led_1 : decode cX9_led 1 = .ok (.istore_n 2, 1) := by decide +kernel
theorem dX9_led_2 : decode cX9_led 2 = .ok (.iconst 0, 1) := by decide +kernel
theorem dX9_led_3 : decode cX9_led 3 = .ok (.istore_n 3, 1) := by decide +kernel
theorem dX9_led_4 : decode cX9_led 4 = .ok (.iload_n 3, 1) := by decide +kernel
theorem dX9_led_5 : decode cX9_led 5 = .ok (.aload_n 0, 1) := by decide +kernel
theorem dX9_led_6 : decode cX9_led 6 = .ok (.getfield 16, 3) := by decide +kernel
theorem dX9_led_9 : decode cX9_led 9 = .ok (.getfield 358, 3) := by decide +kernel
theorem dX9_led_12 : decode cX9_led 12 = .ok (.if_icmp .ge 54, 3) := by decide +kernel
theorem dX9_led_15 : decode cX9_led 15 = .ok (.aload_n 0, 1) := by decide +kernel
theorem dX9_led_16 : decode cX9_led 16 = .ok (.getfield 44, 3) := by decide +kernel
theorem dX9_led_19 : decode cX9_led 19 = .ok (.invokevirtual 279, 3) := by decide +kernel
theorem dX9_led_22 : decode cX9_led 22 = .ok (.ifCond .eq 44, 3) := by decide +kernel
theorem dX9_led_25 : decode cX9_led 25 = .ok (.aload_n 0, 1) := by decide +kernel
theorem dX9_led_26 : decode cX9_led 26 = .ok (.getfield 16, 3) := by decide +kernel
theorem dX9_led_29 : decode cX9_led 29 = .ok (.getfield 112, 3) := by decide +kernel
theorem dX9_led_32 : decode cX9_led 32 = .ok (.iload_n 3, 1) := by decide +kernel
theorem dX9_led_33 : decode cX9_led 33 = .ok (.aaload, 1) := by decide +kernel
theorem dX9_led_34 : decode cX9_led 34 = .ok (.aload_n 0, 1) := by decide +kernel
theorem dX9_led_35 : decode cX9_led 35 = .ok (.getfield 44, 3) := by decide +kernel
theorem dX9_led_38 : decode cX9_led 38 = .ok (.getfield 287, 3) := by decide +kernel
theorem dX9_led_41 : decode cX9_led 41 = .ok (.getfield 291, 3) := by decide +kernel
theorem dX9_led_44 : decode cX9_led 44 = .ok (.invokevirtual 361, 3) := by decide +kernel
theorem dX9_led_47 : decode cX9_led 47 = .ok (.ifCond .eq 13, 3) := by decide +kernel
theorem dX9_led_50 : decode cX9_led 50 = .ok (.iload_n 2, 1) := by decide +kernel
theorem dX9_led_51 : decode cX9_led 51 = .ok (.iload_n 1, 1) := by decide +kernel
theorem dX9_led_52 : decode cX9_led 52 = .ok (.if_icmp .ne 5, 3) := by decide +kernel
theorem dX9_led_55 : decode cX9_led 55 = .ok (.iload_n 3, 1) := by decide +kernel
theorem dX9_led_56 : decode cX9_led 56 = .ok (.ireturn, 1) := by decide +kernel
theorem dX9_led_57 : decode cX9_led 57 = .ok (.iinc 2 1, 3) := by decide +kernel
theorem dX9_led_60 : decode cX9_led 60 = .ok (.iinc 3 1, 3) := by decide +kernel
theorem dX9_led_63 : decode cX9_led 63 = .ok (.goto (-59), 3) := by decide +kernel
theorem dX9_led_66 : decode cX9_led 66 = .ok (.new 364, 3) := by decide +kernel
theorem dX9_led_69 : decode cX9_led 69 = .ok (.dup, 1) := by decide +kernel
theorem dX9_led_70 : decode cX9_led 70 = .ok (.invokespecial 366, 3) := by decide +kernel
theorem dX9_led_73 : decode cX9_led 73 = .ok (.athrow, 1) := by decide +kernel
theorem dX9_size_0 : decode cX9_size 0 = .ok (.iload_n 1, 1) := by decide +kernel
theorem dX9_size_1 : decode cX9_size 1 = .ok (.tableswitch 206 0 11 #[63, 71, 79, 87, 95, 103, 111, 134, 160, 185, 193, 201], 63) := by decide +kernel
theorem dX9_size_64 : decode cX9_size 64 = .ok (.aload_n 0, 1) := by decide +kernel
theorem dX9_size_65 : decode cX9_size 65 = .ok (.getfield 16, 3) := by decide +kernel
theorem dX9_size_68 : decode cX9_size 68 = .ok (.getfield 367, 3) := by decide +kernel
theorem dX9_size_71 : decode cX9_size 71 = .ok (.ireturn, 1) := by decide +kernel
theorem dX9_size_72 : decode cX9_size 72 = .ok (.aload_n 0, 1) := by decide +kernel
theorem dX9_size_73 : decode cX9_size 73 = .ok (.getfield 16, 3) := by decide +kernel
theorem dX9_size_76 : decode cX9_size 76 = .ok (.getfield 196, 3) := by decide +kernel
theorem dX9_size_79 : decode cX9_size 79 = .ok (.ireturn, 1) := by decide +kernel
theorem dX9_size_80 : decode cX9_size 80 = .ok (.aload_n 0, 1) := by decide +kernel
theorem dX9_size_81 : decode cX9_size 81 = .ok (.getfield 16, 3) := by decide +kernel
theorem dX9_size_84 : decode cX9_size 84 = .ok (.getfield 370, 3) := by decide +kernel
theorem dX9_size_87 : decode cX9_size 87 = .ok (.ireturn, 1) := by decide +kernel
theorem dX9_size_88 : decode cX9_size 88 = .ok (.aload_n 0, 1) := by decide +kernel
theorem dX9_size_89 : decode cX9_size 89 = .ok (.getfield 16, 3) := by decide +kernel
theorem dX9_size_92 : decode cX9_size 92 = .ok (.getfield 358, 3) := by decide +kernel
theorem dX9_size_95 : decode cX9_size 95 = .ok (.ireturn, 1) := by decide +kernel
theorem dX9_size_96 : decode cX9_size 96 = .ok (.aload_n 0, 1) := by decide +kernel
theorem dX9_size_97 : decode cX9_size 97 = .ok (.getfield 16, 3) := by decide +kernel
theorem dX9_size_100 : decode cX9_size 100 = .ok (.getfield 86, 3) := by decide +kernel
theorem dX9_size_103 : decode cX9_size 103 = .ok (.ireturn, 1) := by decide +kernel
theorem dX9_size_104 : decode cX9_size 104 = .ok (.aload_n 0, 1) := by decide +kernel
theorem dX9_size_105 : decode cX9_size 105 = .ok (.getfield 16, 3) := by decide +kernel
theorem dX9_size_108 : decode cX9_size 108 = .ok (.getfield 264, 3) := by decide +kernel
theorem dX9_size_111 : decode cX9_size 111 = .ok (.ireturn, 1) := by decide +kernel
theorem dX9_size_112 : decode cX9_size 112 = .ok (.aload_n 0, 1) := by decide +kernel
theorem dX9_size_113 : decode cX9_size 113 = .ok (.getfield 44, 3) := by decide +kernel
theorem dX9_size_116 : decode cX9_size 116 = .ok (.invokevirtual 279, 3) := by decide +kernel
theorem dX9_size_119 : decode cX9_size 119 = .ok (.ifCond .eq 13, 3) := by decide +kernel
theorem dX9_size_122 : decode cX9_size 122 = .ok (.aload_n 0, 1) := by decide +kernel
theorem dX9_size_123 : decode cX9_size 123 = .ok (.getfield 44, 3) := by decide +kernel
theorem dX9_size_126 : decode cX9_size 126 = .ok (.getfield 282, 3) := by decide +kernel
theorem dX9_size_129 : decode cX9_size 129 = .ok (.goto 5, 3) := by decide +kernel
theorem dX9_size_132 : decode cX9_size 132 = .ok (.bipush (-2), 2) := by decide +kernel
theorem dX9_size_134 : decode cX9_size 134 = .ok (.ireturn, 1) := by decide +kernel
theorem dX9_size_135 : decode cX9_size 135 = .ok (.aload_n 0, 1) := by decide +kernel
theorem dX9_size_136 : decode cX9_size 136 = .ok (.getfield 44, 3) := by decide +kernel
theorem dX9_size_139 : decode cX9_size 139 = .ok (.invokevirtual 279, 3) := by decide +kernel
theorem dX9_size_142 : decode cX9_size 142 = .ok (.ifCond .eq 16, 3) := by decide +kernel
theorem dX9_size_145 : decode cX9_size 145 = .ok (.aload_n 0, 1) := by decide +kernel
theorem dX9_size_146 : decode cX9_size 146 = .ok (.getfield 44, 3) := by decide +kernel
theorem dX9_size_149 : decode cX9_size 149 = .ok (.getfield 287, 3) := by decide +kernel
theorem dX9_size_152 : decode cX9_size 152 = .ok (.getfield 291, 3) := by decide +kernel
theorem dX9_size_155 : decode cX9_size 155 = .ok (.goto 5, 3) := by decide +kernel
theorem dX9_size_158 : decode cX9_size 158 = .ok (.bipush (-2), 2) := by decide +kernel
theorem dX9_size_160 : decode cX9_size 160 = .ok (.ireturn, 1) := by decide +kernel
theorem dX9_size_161 : decode cX9_size 161 = .ok (.aload_n 0, 1) := by decide +kernel
theorem dX9_size_162 : decode cX9_size 162 = .ok (.getfield 44, 3) := by decide +kernel
theorem dX9_size_165 : decode cX9_size 165 = .ok (.invokevirtual 279, 3) := by decide +kernel
theorem dX9_size_168 : decode cX9_size 168 = .ok (.ifCond .eq 16, 3) := by decide +kernel
theorem dX9_size_171 : decode cX9_size 171 = .ok (.aload_n 0, 1) := by decide +kernel
theorem dX9_size_172 : decode cX9_size 172 = .ok (.getfield 44, 3) := by decide +kernel
theorem dX9_size_175 : decode cX9_size 175 = .ok (.getfield 287, 3) := by decide +kernel
theorem dX9_size_178 : decode cX9_size 178 = .ok (.getfield 296, 3) := by decide +kernel
theorem dX9_size_181 : decode cX9_size 181 = .ok (.goto 4, 3) := by decide +kernel
theorem dX9_size_184 : decode cX9_size 184 = .ok (.iconst 0, 1) := by decide +kernel
theorem dX9_size_185 : decode cX9_size 185 = .ok (.ireturn, 1) := by decide +kernel
theorem dX9_size_186 : decode cX9_size 186 = .ok (.aload_n 0, 1) := by decide +kernel
theorem dX9_size_187 : decode cX9_size 187 = .ok (.getfield 44, 3) := by decide +kernel
theorem dX9_size_190 : decode cX9_size 190 = .ok (.getfield 373, 3) := by decide +kernel
theorem dX9_size_193 : decode cX9_size 193 = .ok (.ireturn, 1) := by decide +kernel
theorem dX9_size_194 : decode cX9_size 194 = .ok (.aload_n 0, 1) := by decide +kernel
theorem dX9_size_195 : decode cX9_size 195 = .ok (.getfield 44, 3) := by decide +kernel
theorem dX9_size_198 : decode cX9_size 198 = .ok (.getfield 376, 3) := by decide +kernel
theorem dX9_size_201 : decode cX9_size 201 = .ok (.ireturn, 1) := by decide +kernel
theorem dX9_size_202 : decode cX9_size 202 = .ok (.aload_n 0, 1) := by decide +kernel
theorem dX9_size_203 : decode cX9_size 203 = .ok (.getfield 48, 3) := by decide +kernel
theorem dX9_size_206 : decode cX9_size 206 = .ok (.ireturn, 1) := by decide +kernel
theorem dX9_size_207 : decode cX9_size 207 = .ok (.iconst (-1), 1) := by decide +kernel
theorem dX9_size_208 : decode cX9_size 208 = .ok (.ireturn, 1) := by decide +kernel
theorem dX9_trouble_0 : decode cX9_trouble 0 = .ok (.aload_n 0, 1) := by decide +kernel
theorem dX9_trouble_1 : decode cX9_trouble 1 = .ok (.getfield 92, 3) := by decide +kernel
theorem dX9_trouble_4 : decode cX9_trouble 4 = .ok (.ireturn, 1) := by decide +kernel
theorem dX10_init_0 : decode cX10_init 0 = .ok (.aload_n 0, 1) := by decide +kernel
theorem dX10_init_1 : decode cX10_init 1 = .ok (.invokespecial 3, 3) := by decide +kernel
theorem dX10_init_4 : decode cX10_init 4 = .ok (.aload_n 0, 1) := by decide +kernel
theorem dX10_init_5 : decode cX10_init 5 = .ok (.bipush 6, 2) := by decide +kernel
theorem dX10_init_7 : decode cX10_init 7 = .ok (.newarray .int, 2) := by decide +kernel
theorem dX10_init_9 : decode cX10_init 9 = .ok (.putfield 9, 3) := by decide +kernel
theorem dX10_init_12 : decode cX10_init 12 = .ok (.aload_n 0, 1) := by decide +kernel
theorem dX10_init_13 : decode cX10_init 13 = .ok (.bipush 6, 2) := by decide +kernel
theorem dX10_init_15 : decode cX10_init 15 = .ok (.newarray .int, 2) := by decide +kernel
theorem dX10_init_17 : decode cX10_init 17 = .ok (.putfield 15, 3) := by decide +kernel
theorem dX10_init_20 : decode cX10_init 20 = .ok (.aload_n 0, 1) := by decide +kernel
theorem dX10_init_21 : decode cX10_init 21 = .ok (.bipush 6, 2) := by decide +kernel
theorem dX10_init_23 : decode cX10_init 23 = .ok (.newarray .int, 2) := by decide +kernel
theorem dX10_init_25 : decode cX10_init 25 = .ok (.putfield 18, 3) := by decide +kernel
theorem dX10_init_28 : decode cX10_init 28 = .ok (.aload_n 0, 1) := by decide +kernel
theorem dX10_init_29 : decode cX10_init 29 = .ok (.bipush 6, 2) := by decide +kernel
theorem dX10_init_31 : decode cX10_init 31 = .ok (.newarray .int, 2) := by decide +kernel
theorem dX10_init_33 : decode cX10_init 33 = .ok (.putfield 21, 3) := by decide +kernel
theorem dX10_init_36 : decode cX10_init 36 = .ok (.aload_n 0, 1) := by decide +kernel
theorem dX10_init_37 : decode cX10_init 37 = .ok (.bipush 6, 2) := by decide +kernel
theorem dX10_init_39 : decode cX10_init 39 = .ok (.newarray .int, 2) := by decide +kernel
theorem dX10_init_41 : decode cX10_init 41 = .ok (.putfield 24, 3) := by decide +kernel
theorem dX10_init_44 : decode cX10_init 44 = .ok (.aload_n 0, 1) := by decide +kernel
theorem dX10_init_45 : decode cX10_init 45 = .ok (.bipush 8, 2) := by decide +kernel
theorem dX10_init_47 : decode cX10_init 47 = .ok (.newarray .int, 2) := by decide +kernel
theorem dX10_init_49 : decode cX10_init 49 = .ok (.putfield 27, 3) := by decide +kernel
theorem dX10_init_52 : decode cX10_init 52 = .ok (.aload_n 0, 1) := by decide +kernel
theorem dX10_init_53 : decode cX10_init 53 = .ok (.bipush 12, 2) := by decide +kernel
theorem dX10_init_55 : decode cX10_init 55 = .ok (.newarray .int, 2) := by decide +kernel
theorem dX10_init_57 : decode cX10_init 57 = .ok (.putfield 30, 3) := by decide +kernel
theorem dX10_init_60 : decode cX10_init 60 = .ok (.aload_n 0, 1) := by decide +kernel
theorem dX10_init_61 : decode cX10_init 61 = .ok (.bipush 12, 2) := by decide +kernel
theorem dX10_init_63 : decode cX10_init 63 = .ok (.newarray .int, 2) := by decide +kernel
theorem dX10_init_65 : decode cX10_init 65 = .ok (.putfield 33, 3) := by decide +kernel
theorem dX10_init_68 : decode cX10_init 68 = .ok (.aload_n 0, 1) := by decide +kernel
theorem dX10_init_69 : decode cX10_init 69 = .ok (.bipush 12, 2) := by decide +kernel
theorem dX10_init_71 : decode cX10_init 71 = .ok (.newarray .int, 2) := by decide +kernel
theorem dX10_init_73 : decode cX10_init 73 = .ok (.putfield 36, 3) := by decide +kernel
theorem dX10_init_76 : decode cX10_init 76 = .ok (.aload_n 0, 1) := by decide +kernel
theorem dX10_init_77 : decode cX10_init 77 = .ok (.bipush 12, 2) := by decide +kernel
theorem dX10_init_79 : decode cX10_init 79 = .ok (.newarray .int, 2) := by decide +kernel
theorem dX10_init_81 : decode cX10_init 81 = .ok (.putfield 39, 3) := by decide +kernel
theorem dX10_init_84 : decode cX10_init 84 = .ok (.aload_n 0, 1) := by decide +kernel
theorem dX10_init_85 : decode cX10_init 85 = .ok (.bipush 12, 2) := by decide +kernel
theorem dX10_init_87 : decode cX10_init 87 = .ok (.newarray .int, 2) := by decide +kernel
theorem dX10_init_89 : decode cX10_init 89 = .ok (.putfield 42, 3) := by decide +kernel
theorem dX10_init_92 : decode cX10_init 92 = .ok (.aload_n 0, 1) := by decide +kernel
theorem dX10_init_93 : decode cX10_init 93 = .ok (.bipush 8, 2) := by decide +kernel
theorem dX10_init_95 : decode cX10_init 95 = .ok (.newarray .boolean, 2) := by decide +kernel
theorem dX10_init_97 : decode cX10_init 97 = .ok (.putfield 45, 3) := by decide +kernel
theorem dX10_init_100 : decode cX10_init 100 = .ok (.aload_n 0, 1) := by decide +kernel
theorem dX10_init_101 : decode cX10_init 101 = .ok (.iconst 4, 1) := by decide +kernel
theorem dX10_init_102 : decode cX10_init 102 = .ok (.newarray .int, 2) := by decide +kernel
theorem dX10_init_104 : decode cX10_init 104 = .ok (.putfield 49, 3) := by decide +kernel
theorem dX10_init_107 : decode cX10_init 107 = .ok (.aload_n 0, 1) := by decide +kernel
theorem dX10_init_108 : decode cX10_init 108 = .ok (.iconst 4, 1) := by decide +kernel
theorem dX10_init_109 : decode cX10_init 109 = .ok (.newarray .int, 2) := by decide +kernel
theorem dX10_init_111 : decode cX10_init 111 = .ok (.putfield 52, 3) := by decide +kernel
theorem dX10_init_114 : decode cX10_init 114 = .ok (.aload_n 0, 1) := by decide +kernel
theorem dX10_init_115 : decode cX10_init 115 = .ok (.iconst 4, 1) := by decide +kernel
theorem dX10_init_116 : decode cX10_init 116 = .ok (.newarray .int, 2) := by decide +kernel
theorem dX10_init_118 : decode cX10_init 118 = .ok (.putfield 55, 3) := by decide +kernel
theorem dX10_init_121 : decode cX10_init 121 = .ok (.aload_n 0, 1) := by decide +kernel
theorem dX10_init_122 : decode cX10_init 122 = .ok (.iconst 4, 1) := by decide +kernel
theorem dX10_init_123 : decode cX10_init 123 = .ok (.newarray .int, 2) := by decide +kernel
theorem dX10_init_125 : decode cX10_init 125 = .ok (.putfield 58, 3) := by decide +kernel
theorem dX10_init_128 : decode cX10_init 128 = .ok (.aload_n 0, 1) := by decide +kernel
theorem dX10_init_129 : decode cX10_init 129 = .ok (.iconst 4, 1) := by decide +kernel
theorem dX10_init_130 : decode cX10_init 130 = .ok (.newarray .int, 2) := by decide +kernel
theorem dX10_init_132 : decode cX10_init 132 = .ok (.putfield 61, 3) := by decide +kernel
theorem dX10_init_135 : decode cX10_init 135 = .ok (.aload_n 0, 1) := by decide +kernel
theorem dX10_init_136 : decode cX10_init 136 = .ok (.iconst 4, 1) := by decide +kernel
theorem dX10_init_137 : decode cX10_init 137 = .ok (.newarray .int, 2) := by decide +kernel
theorem dX10_init_139 : decode cX10_init 139 = .ok (.putfield 64, 3) := by decide +kernel
theorem dX10_init_142 : decode cX10_init 142 = .ok (.aload_n 0, 1) := by decide +kernel
theorem dX10_init_143 : decode cX10_init 143 = .ok (.iconst 4, 1) := by decide +kernel
theorem dX10_init_144 : decode cX10_init 144 = .ok (.newarray .int, 2) := by decide +kernel
theorem dX10_init_146 : decode cX10_init 146 = .ok (.putfield 67, 3) := by decide +kernel
theorem dX10_init_149 : decode cX10_init 149 = .ok (.aload_n 0, 1) := by decide +kernel
theorem dX10_init_150 : decode cX10_init 150 = .ok (.iconst 4, 1) := by decide +kernel
theorem dX10_init_151 : decode cX10_init 151 = .ok (.newarray .int, 2) := by decide +kernel
theorem dX10_init_153 : decode cX10_init 153 = .ok (.putfield 70, 3) := by decide +kernel
theorem dX10_init_156 : decode cX10_init 156 = .ok (.aload_n 0, 1) := by decide +kernel
theorem dX10_init_157 : decode cX10_init 157 = .ok (.bipush 20, 2) := by decide +kernel
theorem dX10_init_159 : decode cX10_init 159 = .ok (.newarray .int, 2) := by decide +kernel
theorem dX10_init_161 : decode cX10_init 161 = .ok (.putfield 73, 3) := by decide +kernel
theorem dX10_init_164 : decode cX10_init 164 = .ok (.aload_n 0, 1) := by decide +kernel
theorem dX10_init_165 : decode cX10_init 165 = .ok (.bipush 12, 2) := by decide +kernel
theorem dX10_init_167 : decode cX10_init 167 = .ok (.newarray .long, 2) := by decide +kernel
theorem dX10_init_169 : decode cX10_init 169 = .ok (.putfield 76, 3) := by decide +kernel
theorem dX10_init_172 : decode cX10_init 172 = .ok (.aload_n 0, 1) := by decide +kernel
theorem dX10_init_173 : decode cX10_init 173 = .ok (.bipush 12, 2) := by decide +kernel
theorem dX10_init_175 : decode cX10_init 175 = .ok (.newarray .int, 2) := by decide +kernel
theorem dX10_init_177 : decode cX10_init 177 = .ok (.putfield 80, 3) := by decide +kernel
theorem dX10_init_180 : decode cX10_init 180 = .ok (.aload_n 0, 1) := by decide +kernel
theorem dX10_init_181 : decode cX10_init 181 = .ok (.bipush 12, 2) := by decide +kernel
theorem dX10_init_183 : decode cX10_init 183 = .ok (.newarray .int, 2) := by decide +kernel
theorem dX10_init_185 : decode cX10_init 185 = .ok (.putfield 83, 3) := by decide +kernel
theorem dX10_init_188 : decode cX10_init 188 = .ok (.return_, 1) := by decide +kernel
theorem dX10_find_0 : decode cX10_find 0 = .ok (.iconst 0, 1) := by decide +kernel
theorem dX10_find_1 : decode cX10_find 1 = .ok (.istore_n 3, 1) := by decide +kernel
theorem dX10_find_2 : decode cX10_find 2 = .ok (.iload_n 3, 1) := by decide +kernel
theorem dX10_find_3 : decode cX10_find 3 = .ok (.aload_n 0, 1) := by decide +kernel
theorem dX10_find_4 : decode cX10_find 4 = .ok (.getfield 86, 3) := by decide +kernel
theorem dX10_find_7 : decode cX10_find 7 = .ok (.if_icmp .ge 22, 3) := by decide +kernel
theorem dX10_find_10 : decode cX10_find 10 = .ok (.aload_n 0, 1) := by decide +kernel
theorem dX10_find_11 : decode cX10_find 11 = .ok (.getfield 76, 3) := by decide +kernel
theorem dX10_find_14 : decode cX10_find 14 = .ok (.iload_n 3, 1) := by decide +kernel
theorem dX10_find_15 : decode cX10_find 15 = .ok (.laload, 1) := by decide +kernel
theorem dX10_find_16 : decode cX10_find 16 = .ok (.lload_n 1, 1) := by decide +kernel
theorem dX10_find_17 : decode cX10_find 17 = .ok (.lcmp, 1) := by decide +kernel
theorem dX10_find_18 : decode cX10_find 18 = .ok (.ifCond .ne 5, 3) := by decide +kernel
theorem dX10_find_21 : decode cX10_find 21 = .ok (.iload_n 3, 1) := by decide +kernel
theorem dX10_find_22 : decode cX10_find 22 = .ok (.ireturn, 1) := by decide +kernel
theorem dX10_find_23 : decode cX10_find 23 = .ok (.iinc 3 1, 3) := by decide +kernel
theorem dX10_find_26 : decode cX10_find 26 = .ok (.goto (-24), 3) := by decide +kernel
theorem dX10_find_29 : decode cX10_find 29 = .ok (.iconst (-1), 1) := by decide +kernel
theorem dX10_find_30 : decode cX10_find 30 = .ok (.ireturn, 1) := by decide +kernel
theorem dX10_shield_0 : decode cX10_shield 0 = .ok (.aload_n 0, 1) := by decide +kernel
theorem dX10_shield_1 : decode cX10_shield 1 = .ok (.getfield 49, 3) := by decide +kernel
theorem dX10_shield_4 : decode cX10_shield 4 = .ok (.iload_n 1, 1) := by decide +kernel
theorem dX10_shield_5 : decode cX10_shield 5 = .ok (.iaload, 1) := by decide +kernel
theorem dX10_shield_6 : decode cX10_shield 6 = .ok (.iconst 3, 1) := by decide +kernel
theorem dX10_shield_7 : decode cX10_shield 7 = .ok (.if_icmp .ne 12, 3) := by decide +kernel
theorem dX10_shield_10 : decode cX10_shield 10 = .ok (.aload_n 0, 1) := by decide +kernel
theorem dX10_shield_11 : decode cX10_shield 11 = .ok (.getfield 52, 3) := by decide +kernel
theorem dX10_shield_14 : decode cX10_shield 14 = .ok (.iload_n 1, 1) := by decide +kernel
theorem dX10_shield_15 : decode cX10_shield 15 = .ok (.iaload, 1) := by decide +kernel
theorem dX10_shield_16 : decode cX10_shield 16 = .ok (.goto 4, 3) := by decide +kernel
theorem dX10_shield_19 : decode cX10_shield 19 = .ok (.iconst 0, 1) := by decide +kernel
theorem dX10_shield_20 : decode cX10_shield 20 = .ok (.ireturn, 1) := by decide +kernel
theorem dX10_begins_0 : decode cX10_begins 0 = .ok (.iload_n 2, 1) := by decide +kernel
theorem dX10_begins_1 : decode cX10_begins 1 = .ok (.ifCond .ne 12, 3) := by decide +kernel
theorem dX10_begins_4 : decode cX10_begins 4 = .ok (.aload_n 0, 1) := by decide +kernel
theorem dX10_begins_5 : decode cX10_begins 5 = .ok (.getfield 30, 3) := by decide +kernel
theorem dX10_begins_8 : decode cX10_begins 8 = .ok (.iload_n 1, 1) := by decide +kernel
theorem dX10_begins_9 : decode cX10_begins 9 = .ok (.iaload, 1) := by decide +kernel
theorem dX10_begins_10 : decode cX10_begins 10 = .ok (.goto 9, 3) := by decide +kernel
theorem dX10_begins_13 : decode cX10_begins 13 = .ok (.aload_n 0, 1) := by decide +kernel
theorem dX10_begins_14 : decode cX10_begins 14 = .ok (.getfield 33, 3) := by decide +kernel
theorem dX10_begins_17 : decode cX10_begins 17 = .ok (.iload_n 1, 1) := by decide +kernel
theorem dX10_begins_18 : decode cX10_begins 18 = .ok (.iaload, 1) := by decide +kernel
theorem dX10_begins_19 : decode cX10_begins 19 = .ok (.ireturn, 1) := by decide +kernel
theorem dX10_ends_0 : decode cX10_ends 0 = .ok (.iload_n 2, 1) := by decide +kernel
theorem dX10_ends_1 : decode cX10_ends 1 = .ok (.ifCond .ne 12, 3) := by decide +kernel
theorem dX10_ends_4 : decode cX10_ends 4 = .ok (.aload_n 0, 1) := by decide +kernel
theorem dX10_ends_5 : decode cX10_ends 5 = .ok (.getfield 33, 3) := by decide +kernel
theorem dX10_ends_8 : decode cX10_ends 8 = .ok (.iload_n 1, 1) := by decide +kernel
theorem dX10_ends_9 : decode cX10_ends 9 = .ok (.iaload, 1) := by decide +kernel
theorem dX10_ends_10 : decode cX10_ends 10 = .ok (.goto 9, 3) := by decide +kernel
theorem dX10_ends_13 : decode cX10_ends 13 = .ok (.aload_n 0, 1) := by decide +kernel
theorem dX10_ends_14 : decode cX10_ends 14 = .ok (.getfield 30, 3) := by decide +kernel
theorem dX10_ends_17 : decode cX10_ends 17 = .ok (.iload_n 1, 1) := by decide +kernel
theorem dX10_ends_18 : decode cX10_ends 18 = .ok (.iaload, 1) := by decide +kernel
theorem dX10_ends_19 : decode cX10_ends 19 = .ok (.ireturn, 1) := by decide +kernel
theorem dX10_facing_0 : decode cX10_facing 0 = .ok (.iload_n 2, 1) := by decide +kernel
theorem dX10_facing_1 : decode cX10_facing 1 = .ok (.ifCond .ne 12, 3) := by decide +kernel
theorem dX10_facing_4 : decode cX10_facing 4 = .ok (.aload_n 0, 1) := by decide +kernel
theorem dX10_facing_5 : decode cX10_facing 5 = .ok (.getfield 36, 3) := by decide +kernel
theorem dX10_facing_8 : decode cX10_facing 8 = .ok (.iload_n 1, 1) := by decide +kernel
theorem dX10_facing_9 : decode cX10_facing 9 = .ok (.iaload, 1) := by decide +kernel
theorem dX10_facing_10 : decode cX10_facing 10 = .ok (.goto 13, 3) := by decide +kernel
theorem dX10_facing_13 : decode cX10_facing 13 = .ok (.aload_n 0, 1) := by decide +kernel
theorem dX10_facing_14 : decode cX10_facing 14 = .ok (.getfield 36, 3) := by decide +kernel
theorem dX10_facing_17 : decode cX10_facing 17 = .ok (.iload_n 1, 1) := by decide +kernel
theorem dX10_facing_18 : decode cX10_facing 18 = .ok (.iaload, 1) := by decide +kernel
theorem dX10_facing_19 : decode cX10_facing 19 = .ok (.iconst 2, 1) := by decide +kernel
theorem dX10_facing_20 : decode cX10_facing 20 = .ok (.iadd, 1) := by decide +kernel
theorem dX10_facing_21 : decode cX10_facing 21 = .ok (.iconst 3, 1) := by decide +kernel
theorem dX10_facing_22 : decode cX10_facing 22 = .ok (.iand, 1) := by decide +kernel
theorem dX10_facing_23 : decode cX10_facing 23 = .ok (.ireturn, 1) := by decide +kernel
theorem dX10_minutes_0 : decode cX10_minutes 0 = .ok (.aload_n 0, 1) := by decide +kernel
theorem dX10_minutes_1 : decode cX10_minutes 1 = .ok (.getfield 39, 3) := by decide +kernel
theorem dX10_minutes_4 : decode cX10_minutes 4 = .ok (.iload_n 1, 1) := by decide +kernel
theorem dX10_minutes_5 : decode cX10_minutes 5 = .ok (.iaload, 1) := by decide +kernel
theorem dX10_minutes_6 : decode cX10_minutes 6 = .ok (.iload_n 2, 1) := by decide +kernel
theorem dX10_minutes_7 : decode cX10_minutes 7 = .ok (.iadd, 1) := by decide +kernel
theorem dX10_minutes_8 : decode cX10_minutes 8 = .ok (.iconst 1, 1) := by decide +kernel
theorem dX10_minutes_9 : decode cX10_minutes 9 = .ok (.isub, 1) := by decide +kernel
theorem dX10_minutes_10 : decode cX10_minutes 10 = .ok (.iload_n 2, 1) := by decide +kernel
theorem dX10_minutes_11 : decode cX10_minutes 11 = .ok (.idiv, 1) := by decide +kernel
theorem dX10_minutes_12 : decode cX10_minutes 12 = .ok (.ireturn, 1) := by decide +kernel
theorem dX10_air_0 : decode cX10_air 0 = .ok (.aload_n 0, 1) := by decide +kernel
theorem dX10_air_1 : decode cX10_air 1 = .ok (.getfield 18, 3) := by decide +kernel
theorem dX10_air_4 : decode cX10_air 4 = .ok (.iload_n 3, 1) := by decide +kernel
theorem dX10_air_5 : decode cX10_air 5 = .ok (.iaload, 1) := by decide +kernel
theorem dX10_air_6 : decode cX10_air 6 = .ok (.aload_n 0, 1) := by decide +kernel
theorem dX10_air_7 : decode cX10_air 7 = .ok (.iload_n 1, 1) := by decide +kernel
theorem dX10_air_8 : decode cX10_air 8 = .ok (.iload_n 2, 1) := by decide +kernel
theorem dX10_air_9 : decode cX10_air 9 = .ok (.invokevirtual 90, 3) := by decide +kernel
theorem dX10_air_12 : decode cX10_air 12 = .ok (.isub, 1) := by decide +kernel
theorem dX10_air_13 : decode cX10_air 13 = .ok (.iconst 3, 1) := by decide +kernel
theorem dX10_air_14 : decode cX10_air 14 = .ok (.iand, 1) := by decide +kernel
theorem dX10_air_15 : decode cX10_air 15 = .ok (.istore 4, 2) := by decide +kernel
theorem dX10_air_17 : decode cX10_air 17 = .ok (.iload 4, 2) := by decide +kernel
theorem dX10_air_19 : decode cX10_air 19 = .ok (.ifCond .ne 12, 3) := by decide +kernel
theorem dX10_air_22 : decode cX10_air 22 = .ok (.aload_n 0, 1) := by decide +kernel
theorem dX10_air_23 : decode cX10_air 23 = .ok (.getfield 21, 3) := by decide +kernel
theorem dX10_air_26 : decode cX10_air 26 = .ok (.iload_n 3, 1) := by decide +kernel
theorem dX10_air_27 : decode cX10_air 27 = .ok (.iaload, 1) := by decide +kernel
theorem dX10_air_28 : decode cX10_air 28 = .ok (.goto 20, 3) := by decide +kernel
theorem dX10_air_31 : decode cX10_air 31 = .ok (.iload 4, 2) := by decide +kernel
theorem dX10_air_33 : decode cX10_air 33 = .ok (.iconst 2, 1) := by decide +kernel
theorem dX10_air_34 : decode cX10_air 34 = .ok (.if_icmp .ne 13, 3) := by decide +kernel
theorem dX10_air_37 : decode cX10_air 37 = .ok (.aload_n 0, 1) := by decide +kernel
theorem dX10_air_38 : decode cX10_air 38 = .ok (.getfield 21, 3) := by decide +kernel
theorem dX10_air_41 : decode cX10_air 41 = .ok (.iload_n 3, 1) := by decide +kernel
theorem dX10_air_42 : decode cX10_air 42 = .ok (.iaload, 1) := by decide +kernel
theorem dX10_air_43 : decode cX10_air 43 = .ok (.ineg, 1) := by decide +kernel
theorem dX10_air_44 : decode cX10_air 44 = .ok (.goto 4, 3) := by decide +kernel
theorem dX10_air_47 : decode cX10_air 47 = .ok (.iconst 0, 1) := by decide +kernel
theorem dX10_air_48 : decode cX10_air 48 = .ok (.ireturn, 1) := by decide +kernel
theorem dX10_across_0 : decode cX10_across 0 = .ok (.aload_n 0, 1) := by decide +kernel
theorem dX10_across_1 : decode cX10_across 1 = .ok (.getfield 18, 3) := by decide +kernel
theorem dX10_across_4 : decode cX10_across 4 = .ok (.iload_n 3, 1) := by decide +kernel
theorem dX10_across_5 : decode cX10_across 5 = .ok (.iaload, 1) := by decide +kernel
theorem dX10_across_6 : decode cX10_across 6 = .ok (.aload_n 0, 1) := by decide +kernel
theorem dX10_across_7 : decode cX10_across 7 = .ok (.iload_n 1, 1) := by decide +kernel
theorem dX10_across_8 : decode cX10_across 8 = .ok (.iload_n 2, 1) := by decide +kernel
theorem dX10_across_9 : decode cX10_across 9 = .ok (.invokevirtual 90, 3) := by decide +kernel
theorem dX10_across_12 : decode cX10_across 12 = .ok (.isub, 1) := by decide +kernel
theorem dX10_across_13 : decode cX10_across 13 = .ok (.iconst 3, 1) := by decide +kernel
theorem dX10_across_14 : decode cX10_across 14 = .ok (.iand, 1) := by decide +kernel
theorem dX10_across_15 : decode cX10_across 15 = .ok (.istore 4, 2) := by decide +kernel
theorem dX10_across_17 : decode cX10_across 17 = .ok (.iload 4, 2) := by decide +kernel
theorem dX10_across_19 : decode cX10_across 19 = .ok (.iconst 1, 1) := by decide +kernel
theorem dX10_across_20 : decode cX10_across 20 = .ok (.if_icmp .ne 12, 3) := by decide +kernel
theorem dX10_across_23 : decode cX10_across 23 = .ok (.aload_n 0, 1) := by decide +kernel
theorem dX10_across_24 : decode cX10_across 24 = .ok (.getfield 21, 3) := by decide +kernel
theorem dX10_across_27 : decode cX10_across 27 = .ok (.iload_n 3, 1) := by decide +kernel
theorem dX10_across_28 : decode cX10_across 28 = .ok (.iaload, 1) := by decide +kernel
theorem dX10_across_29 : decode cX10_across 29 = .ok (.goto 20, 3) := by decide +kernel
theorem dX10_across_32 : decode cX10_across 32 = .ok (.iload 4, 2) := by decide +kernel
theorem dX10_across_34 : decode cX10_across 34 = .ok (.iconst 3, 1) := by decide +kernel
theorem dX10_across_35 : decode cX10_across 35 = .ok (.if_icmp .ne 13, 3) := by decide +kernel
theorem dX10_across_38 : decode cX10_across 38 = .ok (.aload_n 0, 1) := by decide +kernel
theorem dX10_across_39 : decode cX10_across 39 = .ok (.getfield 21, 3) := by decide +kernel
theorem dX10_across_42 : decode cX10_across 42 = .ok (.iload_n 3, 1) := by decide +kernel
theorem dX10_across_43 : decode cX10_across 43 = .ok (.iaload, 1) := by decide +kernel
theorem dX10_across_44 : decode cX10_across 44 = .ok (.ineg, 1) := by decide +kernel
theorem dX10_across_45 : decode cX10_across 45 = .ok (.goto 4, 3) := by decide +kernel
theorem dX10_across_48 : decode cX10_across 48 = .ok (.iconst 0, 1) := by decide +kernel
theorem dX10_across_49 : decode cX10_across 49 = .ok (.ireturn, 1) := by decide +kernel
theorem dX11_init_0 : decode cX11_init 0 = .ok (.aload_n 0, 1) := by decide +kernel
theorem dX11_init_1 : decode cX11_init 1 = .ok (.invokespecial 3, 3) := by decide +kernel
theorem dX11_init_4 : decode cX11_init 4 = .ok (.aload_n 0, 1) := by decide +kernel
theorem dX11_init_5 : decode cX11_init 5 = .ok (.iconst (-1), 1) := by decide +kernel
theorem dX11_init_6 : decode cX11_init 6 = .ok (.putfield 9, 3) := by decide +kernel
theorem dX11_init_9 : decode cX11_init 9 = .ok (.aload_n 0, 1) := by decide +kernel
theorem dX11_init_10 : decode cX11_init 10 = .ok (.sipush 900, 3) := by decide +kernel
theorem dX11_init_13 : decode cX11_init 13 = .ok (.newarray .byte, 2) := by decide +kernel
theorem dX11_init_15 : decode cX11_init 15 = .ok (.putfield 13, 3) := by decide +kernel
theorem dX11_init_18 : decode cX11_init 18 = .ok (.aload_n 0, 1) := by decide +kernel
theorem dX11_init_19 : decode cX11_init 19 = .ok (.sipush 3208, 3) := by decide +kernel
theorem dX11_init_22 : decode cX11_init 22 = .ok (.newarray .long, 2) := by decide +kernel
theorem dX11_init_24 : decode cX11_init 24 = .ok (.putfield 17, 3) := by decide +kernel
theorem dX11_init_27 : decode cX11_init 27 = .ok (.aload_n 0, 1) := by decide +kernel
theorem dX11_init_28 : decode cX11_init 28 = .ok (.sipush 3208, 3) := by decide +kernel
theorem dX11_init_31 : decode cX11_init 31 = .ok (.newarray .int, 2) := by decide +kernel
theorem dX11_init_33 : decode cX11_init 33 = .ok (.putfield 21, 3) := by decide +kernel
theorem dX11_init_36 : decode cX11_init 36 = .ok (.aload_n 0, 1) := by decide +kernel
theorem dX11_init_37 : decode cX11_init 37 = .ok (.sipush 3208, 3) := by decide +kernel
theorem dX11_init_40 : decode cX11_init 40 = .ok (.newarray .int, 2) := by decide +kernel
theorem dX11_init_42 : decode cX11_init 42 = .ok (.putfield 25, 3) := by decide +kernel
theorem dX11_init_45 : decode cX11_init 45 = .ok (.aload_n 0, 1) := by decide +kernel
theorem dX11_init_46 : decode cX11_init 46 = .ok (.bipush (-2), 2) := by decide +kernel
theorem dX11_init_48 : decode cX11_init 48 = .ok (.putfield 28, 3) := by decide +kernel
theorem dX11_init_51 : decode cX11_init 51 = .ok (.aload_n 0, 1) := by decide +kernel
theorem dX11_init_52 : decode cX11_init 52 = .ok (.bipush 7, 2) := by decide +kernel
theorem dX11_init_54 : decode cX11_init 54 = .ok (.newarray .long, 2) := by decide +kernel
theorem dX11_init_56 : decode cX11_init 56 = .ok (.putfield 31, 3) := by decide +kernel
theorem dX11_init_59 : decode cX11_init 59 = .ok (.aload_n 0, 1) := by decide +kernel
theorem dX11_init_60 : decode cX11_init 60 = .ok (.bipush 112, 2) := by decide +kernel
theorem dX11_init_62 : decode cX11_init 62 = .ok (.newarray .long, 2) := by decide +kernel
theorem dX11_init_64 : decode cX11_init 64 = .ok (.putfield 34, 3) := by decide +kernel
theorem dX11_init_67 : decode cX11_init 67 = .ok (.aload_n 0, 1) := by decide +kernel
theorem dX11_init_68 : decode cX11_init 68 = .ok (.bipush 21, 2) := by decide +kernel
theorem dX11_init_70 : decode cX11_init 70 = .ok (.newarray .long, 2) := by decide +kernel
theorem dX11_init_72 : decode cX11_init 72 = .ok (.putfield 37, 3) := by decide +kernel
theorem dX11_init_75 : decode cX11_init 75 = .ok (.return_, 1) := by decide +kernel
theorem dX11_refused_0 : decode cX11_refused 0 = .ok (.aload_n 0, 1) := by decide +kernel
theorem dX11_refused_1 : decode cX11_refused 1 = .ok (.iload_n 1, 1) := by decide +kernel
theorem dX11_refused_2 : decode cX11_refused 2 = .ok (.putfield 43, 3) := by decide +kernel
theorem dX11_refused_5 : decode cX11_refused 5 = .ok (.aload_n 0, 1) := by decide +kernel
theorem dX11_refused_6 : decode cX11_refused 6 = .ok (.iconst (-1), 1) := by decide +kernel
theorem dX11_refused_7 : decode cX11_refused 7 = .ok (.putfield 9, 3) := by decide +kernel
theorem dX11_refused_10 : decode cX11_refused 10 = .ok (.iconst (-1), 1) := by decide +kernel
theorem dX11_refused_11 : decode cX11_refused 11 = .ok (.ireturn, 1) := by decide +kernel
theorem dX11_lost_0 : decode cX11_lost 0 = .ok (.aload_n 0, 1) := by decide +kernel
theorem dX11_lost_1 : decode cX11_lost 1 = .ok (.iload_n 1, 1) := by decide +kernel
theorem dX11_lost_2 : decode cX11_lost 2 = .ok (.invokevirtual 46, 3) := by decide +kernel
theorem dX11_lost_5 : decode cX11_lost 5 = .ok (.pop, 1) := by decide +kernel
theorem dX11_lost_6 : decode cX11_lost 6 = .ok (.bipush (-100), 2) := by decide +kernel
theorem dX11_lost_8 : decode cX11_lost 8 = .ok (.ireturn, 1) := by decide +kernel
theorem dX11_denied_0 : decode cX11_denied 0 = .ok (.aload_n 0, 1) := by decide +kernel
theorem dX11_denied_1 : decode cX11_denied 1 = .ok (.iload_n 1, 1) := by decide +kernel
theorem dX11_denied_2 : decode cX11_denied 2 = .ok (.invokevirtual 46, 3) := by decide +kernel
theorem dX11_denied_5 : decode cX11_denied 5 = .ok (.pop, 1) := by decide +kernel
theorem dX11_denied_6 : decode cX11_denied 6 = .ok (.iconst 0, 1) := by decide +kernel
theorem dX11_denied_7 : decode cX11_denied 7 = .ok (.ireturn, 1) := by decide +kernel
theorem dX11_good_0 : decode cX11_good 0 = .ok (.aload_n 0, 1) := by decide +kernel
theorem dX11_good_1 : decode cX11_good 1 = .ok (.iconst 0, 1) := by decide +kernel
theorem dX11_good_2 : decode cX11_good 2 = .ok (.putfield 43, 3) := by decide +kernel
theorem dX11_good_5 : decode cX11_good 5 = .ok (.aload_n 0, 1) := by decide +kernel
theorem dX11_good_6 : decode cX11_good 6 = .ok (.iconst (-1), 1) := by decide +kernel
theorem dX11_good_7 : decode cX11_good 7 = .ok (.putfield 9, 3) := by decide +kernel
theorem dX11_good_10 : decode cX11_good 10 = .ok (.iload_n 1, 1) := by decide +kernel
theorem dX11_good_11 : decode cX11_good 11 = .ok (.ireturn, 1) := by decide +kernel
theorem dX11_granted_0 : decode cX11_granted 0 = .ok (.aload_n 0, 1) := by decide +kernel
theorem dX11_granted_1 : decode cX11_granted 1 = .ok (.iconst 0, 1) := by decide +kernel
theorem dX11_granted_2 : decode cX11_granted 2 = .ok (.invokevirtual 50, 3) := by decide +kernel
theorem dX11_granted_5 : decode cX11_granted 5 = .ok (.pop, 1) := by decide +kernel
theorem dX11_granted_6 : decode cX11_granted 6 = .ok (.iconst 1, 1) := by decide +kernel
theorem dX11_granted_7 : decode cX11_granted 7 = .ok (.ireturn, 1) := by decide +kernel
theorem dX11_in_0 : decode cX11_in 0 = .ok (.iload_n 0, 1) := by decide +kernel
theorem dX11_in_1 : decode cX11_in 1 = .ok (.iload_n 1, 1) := by decide +kernel
theorem dX11_in_2 : decode cX11_in 2 = .ok (.if_icmp .lt 12, 3) := by decide +kernel
theorem dX11_in_5 : decode cX11_in 5 = .ok (.iload_n 0, 1) := by decide +kernel
theorem dX11_in_6 : decode cX11_in 6 = .ok (.iload_n 2, 1) := by decide +kernel
theorem dX11_in_7 : decode cX11_in 7 = .ok (.if_icmp .gt 7, 3) := by decide +kernel
theorem dX11_in_10 : decode cX11_in 10 = .ok (.iconst 1, 1) := by decide +kernel
theorem dX11_in_11 : decode cX11_in 11 = .ok (.goto 4, 3) := by decide +kernel
theorem dX11_in_14 : decode cX11_in 14 = .ok (.iconst 0, 1) := by decide +kernel
theorem dX11_in_15 : decode cX11_in 15 = .ok (.ireturn, 1) := by decide +kernel
theorem dX11_told_0 : decode cX11_told 0 = .ok (.aload_n 0, 1) := by decide +kernel
theorem dX11_told_1 : decode cX11_told 1 = .ok (.iconst 0, 1) := by decide +kernel
theorem dX11_told_2 : decode cX11_told 2 = .ok (.invokevirtual 50, 3) := by decide +kernel
theorem dX11_told_5 : decode cX11_told 5 = .ok (.pop, 1) := by decide +kernel
theorem dX11_told_6 : decode cX11_told 6 = .ok (.lload_n 1, 1) := by decide +kernel
theorem dX11_told_7 : decode cX11_told 7 = .ok (.lstore 6, 2) := by decide +kernel
theorem dX11_told_9 : decode cX11_told 9 = .ok (.lload_n 3, 1) := by decide +kernel
theorem dX11_told_10 : decode cX11_told 10 = .ok (.lstore 8, 2) := by decide +kernel
theorem dX11_told_12 : decode cX11_told 12 = .ok (.lload 8, 2) := by decide +kernel
theorem dX11_told_14 : decode cX11_told 14 = .ok (.lconst 0, 1) := by decide +kernel
theorem dX11_told_15 : decode cX11_told 15 = .ok (.lcmp, 1) := by decide +kernel
theorem dX11_told_16 : decode cX11_told 16 = .ok (.ifCond .eq 21, 3) := by decide +kernel
theorem dX11_told_19 : decode cX11_told 19 = .ok (.lload 6, 2) := by decide +kernel
theorem dX11_told_21 : decode cX11_told 21 = .ok (.lload 8, 2) := by decide +kernel
theorem dX11_told_23 : decode cX11_told 23 = .ok (.lrem, 1) := by decide +kernel
theorem dX11_told_24 : decode cX11_told 24 = .ok (.lstore 10, 2) := by decide +kernel
theorem dX11_told_26 : decode cX11_told 26 = .ok (.lload 8, 2) := by decide +kernel
theorem dX11_told_28 : decode cX11_told 28 = .ok (.lstore 6, 2) := by decide +kernel
theorem dX11_told_30 : decode cX11_told 30 = .ok (.lload 10, 2) := by decide +kernel
theorem dX11_told_32 : decode cX11_told 32 = .ok (.lstore 8, 2) := by decide +kernel
theorem dX11_told_34 : decode cX11_told 34 = .ok (.goto (-22), 3) := by decide +kernel
theorem dX11_told_37 : decode cX11_told 37 = .ok (.iload 5, 2) := by decide +kernel
theorem dX11_told_39 : decode cX11_told 39 = .ok (.ifCond .eq 7, 3) := by decide +kernel
theorem dX11_told_42 : decode cX11_told 42 = .ok (.lload_n 3, 1) := by decide +kernel
theorem dX11_told_43 : decode cX11_told 43 = .ok (.goto 4, 3) := by decide +kernel
theorem dX11_told_46 : decode cX11_told 46 = .ok (.lload_n 1, 1) := by decide +kernel
theorem dX11_told_47 : decode cX11_told 47 = .ok (.lload 6, 2) := by decide +kernel
theorem dX11_told_49 : decode cX11_told 49 = .ok (.ldiv, 1) := by decide +kernel
theorem dX11_told_50 : decode cX11_told 50 = .ok (.lreturn, 1) := by decide +kernel
theorem dX11_byteAt_0 : decode cX11_byteAt 0 = .ok (.iload_n 1, 1) := by decide +kernel
theorem dX11_byteAt_1 : decode cX11_byteAt 1 = .ok (.aload_n 0, 1) := by decide +kernel
theorem dX11_byteAt_2 : decode cX11_byteAt 2 = .ok (.getfield 53, 3) := by decide +kernel
theorem dX11_byteAt_5 : decode cX11_byteAt 5 = .ok (.if_icmp .ge 16, 3) := by decide +kernel
theorem dX11_byteAt_8 : decode cX11_byteAt 8 = .ok (.aload_n 0, 1) := by decide +kernel
theorem dX11_byteAt_9 : decode cX11_byteAt 9 = .ok (.getfield 13, 3) := by decide +kernel
theorem dX11_byteAt_12 : decode cX11_byteAt 12 = .ok (.iload_n 1, 1) := by decide +kernel
theorem dX11_byteAt_13 : decode cX11_byteAt 13 = .ok (.baload, 1) := by decide +kernel
theorem dX11_byteAt_14 : decode cX11_byteAt 14 = .ok (.sipush 255, 3) := by decide +kernel
theorem dX11_byteAt_17 : decode cX11_byteAt 17 = .ok (.iand, 1) := by decide +kernel
theorem dX11_byteAt_18 : decode cX11_byteAt 18 = .ok (.goto 4, 3) := by decide +kernel
theorem dX11_byteAt_21 : decode cX11_byteAt 21 = .ok (.iconst (-1), 1) := by decide +kernel
theorem dX11_byteAt_22 : decode cX11_byteAt 22 = .ok (.ireturn, 1) := by decide +kernel
theorem dX11_isLetter_0 : decode cX11_isLetter 0 = .ok (.iload_n 0, 1) := by decide +kernel
theorem dX11_isLetter_1 : decode cX11_isLetter 1 = .ok (.bipush 97, 2) := by decide +kernel
theorem dX11_isLetter_3 : decode cX11_isLetter 3 = .ok (.if_icmp .lt 13, 3) := by decide +kernel
theorem dX11_isLetter_6 : decode cX11_isLetter 6 = .ok (.iload_n 0, 1) := by decide +kernel
theorem dX11_isLetter_7 : decode cX11_isLetter 7 = .ok (.bipush 122, 2) := by decide +kernel
theorem dX11_isLetter_9 : decode cX11_isLetter 9 = .ok (.if_icmp .gt 7, 3) := by decide +kernel
theorem dX11_isLetter_12 : decode cX11_isLetter 12 = .ok (.iconst 1, 1) := by decide +kernel
theorem dX11_isLetter_13 : decode cX11_isLetter 13 = .ok (.goto 4, 3) := by decide +kernel
theorem dX11_isLetter_16 : decode cX11_isLetter 16 = .ok (.iconst 0, 1) := by decide +kernel
theorem dX11_isLetter_17 : decode cX11_isLetter 17 = .ok (.ireturn, 1) := by decide +kernel
theorem dX11_isDigit_0 : decode cX11_isDigit 0 = .ok (.iload_n 0, 1) := by decide +kernel
theorem dX11_isDigit_1 : decode cX11_isDigit 1 = .ok (.bipush 48, 2) := by decide +kernel
theorem dX11_isDigit_3 : decode cX11_isDigit 3 = .ok (.if_icmp .lt 13, 3) := by decide +kernel
theorem dX11_isDigit_6 : decode cX11_isDigit 6 = .ok (.iload_n 0, 1) := by decide +kernel
theorem dX11_isDigit_7 : decode cX11_isDigit 7 = .ok (.bipush 57, 2) := by decide +kernel
theorem dX11_isDigit_9 : decode cX11_isDigit 9 = .ok (.if_icmp .gt 7, 3) := by decide +kernel
theorem dX11_isDigit_12 : decode cX11_isDigit 12 = .ok (.iconst 1, 1) := by decide +kernel
theorem dX11_isDigit_13 : decode cX11_isDigit 13 = .ok (.goto 4, 3) := by decide +kernel
theorem dX11_isDigit_16 : decode cX11_isDigit 16 = .ok (.iconst 0, 1) := by decide +kernel
theorem dX11_isDigit_17 : decode cX11_isDigit 17 = .ok (.ireturn, 1) := by decide +kernel
theorem dX11_wordOf_0 : decode cX11_wordOf 0 = .ok (.lconst 0, 1) := by decide +kernel
theorem dX11_wordOf_1 : decode cX11_wordOf 1 = .ok (.lstore_n 1, 1) := by decide +kernel
theorem dX11_wordOf_2 : decode cX11_wordOf 2 = .ok (.iconst 0, 1) := by decide +kernel
theorem dX11_wordOf_3 : decode cX11_wordOf 3 = .ok (.istore_n 3, 1) := by decide +kernel
theorem dX11_wordOf_4 : decode cX11_wordOf 4 = .ok (.iload_n 3, 1) := by decide +kernel
theorem dX11_wordOf_5 : decode cX11_wordOf 5 = .ok (.aload_n 0, 1) := by decide +kernel
theorem dX11_wordOf_6 : decode cX11_wordOf 6 = .ok (.invokevirtual 56, 3) := by decide +kernel
theorem dX11_wordOf_9 : decode cX11_wordOf 9 = .ok (.if_icmp .ge 27, 3) := by decide +kernel
theorem dX11_wordOf_12 : decode cX11_wordOf 12 = .ok (.ldc2_w 62, 3) := by decide +kernel
theorem dX11_wordOf_15 : decode cX11_wordOf 15 = .ok (.lload_n 1, 1) := by decide +kernel
theorem dX11_wordOf_16 : decode cX11_wordOf 16 = .ok (.lmul, 1) := by decide +kernel
theorem dX11_wordOf_17 : decode cX11_wordOf 17 = .ok (.aload_n 0, 1) := by decide +kernel
theorem dX11_wordOf_18 : decode cX11_wordOf 18 = .ok (.iload_n 3, 1) := by decide +kernel
theorem dX11_wordOf_19 : decode cX11_wordOf 19 = .ok (.invokevirtual 64, 3) := by decide +kernel
theorem dX11_wordOf_22 : decode cX11_wordOf 22 = .ok (.bipush 97, 2) := by decide +kernel
theorem dX11_wordOf_24 : decode cX11_wordOf 24 = .ok (.isub, 1) := by decide +kernel
theorem dX11_wordOf_25 : decode cX11_wordOf 25 = .ok (.iconst 1, 1) := by decide +kernel
theorem dX11_wordOf_26 : decode cX11_wordOf 26 = .ok (.iadd, 1) := by decide +kernel
theorem dX11_wordOf_27 : decode cX11_wordOf 27 = .ok (.i2l, 1) := by decide +kernel
theorem dX11_wordOf_28 : decode cX11_wordOf 28 = .ok (.ladd, 1) := by decide +kernel
theorem dX11_wordOf_29 : decode cX11_wordOf 29 = .ok (.lstore_n 1, 1) := by decide +kernel
theorem dX11_wordOf_30 : decode cX11_wordOf 30 = .ok (.iinc 3 1, 3) := by decide +kernel
theorem dX11_wordOf_33 : decode cX11_wordOf 33 = .ok (.goto (-29), 3) := by decide +kernel
theorem dX11_wordOf_36 : decode cX11_wordOf 36 = .ok (.lload_n 1, 1) := by decide +kernel
theorem dX11_wordOf_37 : decode cX11_wordOf 37 = .ok (.lreturn, 1) := by decide +kernel
theorem dX11_goesOn_0 : decode cX11_goesOn 0 = .ok (.aload_n 0, 1) := by decide +kernel
theorem dX11_goesOn_1 : decode cX11_goesOn 1 = .ok (.getfield 68, 3) := by decide +kernel
theorem dX11_goesOn_4 : decode cX11_goesOn 4 = .ok (.iconst 5, 1) := by decide +kernel
theorem dX11_goesOn_5 : decode cX11_goesOn 5 = .ok (.if_icmp .ne 4, 3) := by decide +kernel
theorem dX11_goesOn_8 : decode cX11_goesOn 8 = .ok (.return_, 1) := by decide +kernel
theorem dX11_goesOn_9 : decode cX11_goesOn 9 = .ok (.aload_n 0, 1) := by decide +kernel
theorem dX11_goesOn_10 : decode cX11_goesOn 10 = .ok (.aload_n 0, 1) := by decide +kernel
theorem dX11_goesOn_11 : decode cX11_goesOn 11 = .ok (.getfield 71, 3) := by decide +kernel
theorem dX11_goesOn_14 : decode cX11_goesOn 14 = .ok (.invokevirtual 74, 3) := by decide +kernel
theorem dX11_goesOn_17 : decode cX11_goesOn 17 = .ok (.bipush 32, 2) := by decide +kernel
theorem dX11_goesOn_19 : decode cX11_goesOn 19 = .ok (.if_icmp .ne 16, 3) := by decide +kernel
theorem dX11_goesOn_22 : decode cX11_goesOn 22 = .ok (.aload_n 0, 1) := by decide +kernel
theorem dX11_goesOn_23 : decode cX11_goesOn 23 = .ok (.dup, 1) := by decide +kernel
theorem dX11_goesOn_24 : decode cX11_goesOn 24 = .ok (.getfield 71, 3) := by decide +kernel
theorem dX11_goesOn_27 : decode cX11_goesOn 27 = .ok (.iconst 1, 1) := by decide +kernel
theorem dX11_goesOn_28 : decode cX11_goesOn 28 = .ok (.iadd, 1) := by decide +kernel
theorem dX11_goesOn_29 : decode cX11_goesOn 29 = .ok (.putfield 71, 3) := by decide +kernel
theorem dX11_goesOn_32 : decode cX11_goesOn 32 = .ok (.goto (-23), 3) := by decide +kernel
theorem dX11_goesOn_35 : decode cX11_goesOn 35 = .ok (.aload_n 0, 1) := by decide +kernel
theorem dX11_goesOn_36 : decode cX11_goesOn 36 = .ok (.aload_n 0, 1) := by decide +kernel
theorem dX11_goesOn_37 : decode cX11_goesOn 37 = .ok (.getfield 71, 3) := by decide +kernel
theorem dX11_goesOn_40 : decode cX11_goesOn 40 = .ok (.putfield 77, 3) := by decide +kernel
theorem dX11_goesOn_43 : decode cX11_goesOn 43 = .ok (.aload_n 0, 1) := by decide +kernel
theorem dX11_goesOn_44 : decode cX11_goesOn 44 = .ok (.iconst 0, 1) := by decide +kernel
theorem dX11_goesOn_45 : decode cX11_goesOn 45 = .ok (.putfield 68, 3) := by decide +kernel
theorem dX11_goesOn_48 : decode cX11_goesOn 48 = .ok (.aload_n 0, 1) := by decide +kernel
theorem dX11_goesOn_49 : decode cX11_goesOn 49 = .ok (.iconst 0, 1) := by decide +kernel
theorem dX11_goesOn_50 : decode cX11_goesOn 50 = .ok (.putfield 80, 3) := by decide +kernel
theorem dX11_goesOn_53 : decode cX11_goesOn 53 = .ok (.aload_n 0, 1) := by decide +kernel
theorem dX11_goesOn_54 : decode cX11_goesOn 54 = .ok (.aload_n 0, 1) := by decide +kernel
theorem dX11_goesOn_55 : decode cX11_goesOn 55 = .ok (.getfield 71, 3) := by decide +kernel
theorem dX11_goesOn_58 : decode cX11_goesOn 58 = .ok (.invokevirtual 74, 3) := by decide +kernel
theorem dX11_goesOn_61 : decode cX11_goesOn 61 = .ok (.istore_n 1, 1) := by decide +kernel
theorem dX11_goesOn_62 : decode cX11_goesOn 62 = .ok (.iconst 0, 1) := by decide +kernel
theorem dX11_goesOn_63 : decode cX11_goesOn 63 = .ok (.istore_n 2, 1) := by decide +kernel
theorem dX11_goesOn_64 : decode cX11_goesOn 64 = .ok (.iload_n 1, 1) := by decide +kernel
theorem dX11_goesOn_65 : decode cX11_goesOn 65 = .ok (.iconst (-1), 1) := by decide +kernel
theorem dX11_goesOn_66 : decode cX11_goesOn 66 = .ok (.if_icmp .ne 11, 3) := by decide +kernel
theorem dX11_goesOn_69 : decode cX11_goesOn 69 = .ok (.aload_n 0, 1) := by decide +kernel
theorem dX11_goesOn_70 : decode cX11_goesOn 70 = .ok (.iconst 1, 1) := by decide +kernel
theorem dX11_goesOn_71 : decode cX11_goesOn 71 = .ok (.putfield 68, 3) := by decide +kernel
theorem dX11_goesOn_74 : decode cX11_goesOn 74 = .ok (.goto 207, 3) := by decide +kernel
theorem dX11_goesOn_77 : decode cX11_goesOn 77 = .ok (.iload_n 1, 1) := by decide +kernel
theorem dX11_goesOn_78 : decode cX11_goesOn 78 = .ok (.invokestatic 83, 3) := by decide +kernel
theorem dX11_goesOn_81 : decode cX11_goesOn 81 = .ok (.ifCond .eq 85, 3) := by decide +kernel
theorem dX11_goesOn_84 : decode cX11_goesOn 84 = .ok (.aload_n 0, 1) := by decide +kernel
theorem dX11_goesOn_85 : decode cX11_goesOn 85 = .ok (.lconst 0, 1) := by decide +kernel
theorem dX11_goesOn_86 : decode cX11_goesOn 86 = .ok (.putfield 87, 3) := by decide +kernel
theorem dX11_goesOn_89 : decode cX11_goesOn 89 = .ok (.aload_n 0, 1) := by decide +kernel
theorem dX11_goesOn_90 : decode cX11_goesOn 90 = .ok (.aload_n 0, 1) := by decide +kernel
theorem dX11_goesOn_91 : decode cX11_goesOn 91 = .ok (.getfield 71, 3) := by decide +kernel
theorem dX11_goesOn_94 : decode cX11_goesOn 94 = .ok (.invokevirtual 74, 3) := by decide +kernel
theorem dX11_goesOn_97 : decode cX11_goesOn 97 = .ok (.invokestatic 83, 3) := by decide +kernel
theorem dX11_goesOn_100 : decode cX11_goesOn 100 = .ok (.ifCond .eq 52, 3) := by decide +kernel
theorem dX11_goesOn_103 : decode cX11_goesOn 103 = .ok (.iload_n 2, 1) := by decide +kernel
theorem dX11_goesOn_104 : decode cX11_goesOn 104 = .ok (.bipush 8, 2) := by decide +kernel
theorem dX11_goesOn_106 : decode cX11_goesOn 106 = .ok (.if_icmp .ge 30, 3) := by decide +kernel
theorem dX11_goesOn_109 : decode cX11_goesOn 109 = .ok (.aload_n 0, 1) := by decide +kernel
theorem dX11_goesOn_110 : decode cX11_goesOn 110 = .ok (.ldc2_w 62, 3) := by decide +kernel
theorem dX11_goesOn_113 : decode cX11_goesOn 113 = .ok (.aload_n 0, 1) := by decide +kernel
theorem dX11_goesOn_114 : decode cX11_goesOn 114 = .ok (.getfield 87, 3) := by decide +kernel
theorem dX11_goesOn_117 : decode cX11_goesOn 117 = .ok (.lmul, 1) := by decide +kernel
theorem dX11_goesOn_118 : decode cX11_goesOn 118 = .ok (.aload_n 0, 1) := by decide +kernel
theorem dX11_goesOn_119 : decode cX11_goesOn 119 = .ok (.aload_n 0, 1) := by decide +kernel
theorem dX11_goesOn_120 : decode cX11_goesOn 120 = .ok (.getfield 71, 3) := by decide +kernel
theorem dX11_goesOn_123 : decode cX11_goesOn 123 = .ok (.invokevirtual 74, 3) := by decide +kernel
theorem dX11_goesOn_126 : decode cX11_goesOn 126 = .ok (.bipush 97, 2) := by decide +kernel
theorem dX11_goesOn_128 : decode cX11_goesOn 128 = .ok (.isub, 1) := by decide +kernel
theorem dX11_goesOn_129 : decode cX11_goesOn 129 = .ok (.iconst 1, 1) := by decide +kernel
theorem dX11_goesOn_130 : decode cX11_goesOn 130 = .ok (.iadd, 1) := by decide +kernel
theorem dX11_goesOn_131 : decode cX11_goesOn 131 = .ok (.i2l, 1) := by decide +kernel
theorem dX11_goesOn_132 : decode cX11_goesOn 132 = .ok (.ladd, 1) := by decide +kernel
theorem dX11_goesOn_133 : decode cX11_goesOn 133 = .ok (.putfield 87, 3) := by decide +kernel
theorem dX11_goesOn_136 : decode cX11_goesOn 136 = .ok (.iinc 2 1, 3) := by decide +kernel
theorem dX11_goesOn_139 : decode cX11_goesOn 139 = .ok (.aload_n 0, 1) := by decide +kernel
theorem dX11_goesOn_140 : decode cX11_goesOn 140 = .ok (.dup, 1) := by decide +kernel
theorem dX11_goesOn_141 : decode cX11_goesOn 141 = .ok (.getfield 71, 3) := by decide +kernel
theorem dX11_goesOn_144 : decode cX11_goesOn 144 = .ok (.iconst 1, 1) := by decide +kernel
theorem dX11_goesOn_145 : decode cX11_goesOn 145 = .ok (.iadd, 1) := by decide +kernel
theorem dX11_goesOn_146 : decode cX11_goesOn 146 = .ok (.putfield 71, 3) := by decide +kernel
theorem dX11_goesOn_149 : decode cX11_goesOn 149 = .ok (.goto (-60), 3) := by decide +kernel
theorem dX11_goesOn_152 : decode cX11_goesOn 152 = .ok (.iload_n 2, 1) := by decide +kernel
theorem dX11_goesOn_153 : decode cX11_goesOn 153 = .ok (.bipush 8, 2) := by decide +kernel
theorem dX11_goesOn_155 : decode cX11_goesOn 155 = .ok (.if_icmp .gt 126, 3) := by decide +kernel
theorem dX11_goesOn_158 : decode cX11_goesOn 158 = .ok (.aload_n 0, 1) := by decide +kernel
theorem dX11_goesOn_159 : decode cX11_goesOn 159 = .ok (.iconst 2, 1) := by decide +kernel
theorem dX11_goesOn_160 : decode cX11_goesOn 160 = .ok (.putfield 68, 3) := by decide +kernel
theorem dX11_goesOn_163 : decode cX11_goesOn 163 = .ok (.goto 118, 3) := by decide +kernel
theorem dX11_goesOn_166 : decode cX11_goesOn 166 = .ok (.iload_n 1, 1) := by decide +kernel
theorem dX11_goesOn_167 : decode cX11_goesOn 167 = .ok (.invokestatic 91, 3) := by decide +kernel
theorem dX11_goesOn_170 : decode cX11_goesOn 170 = .ok (.ifCond .eq 79, 3) := by decide +kernel
theorem dX11_goesOn_173 : decode cX11_goesOn 173 = .ok (.aload_n 0, 1) := by decide +kernel
theorem dX11_goesOn_174 : decode cX11_goesOn 174 = .ok (.iconst 0, 1) := by decide +kernel
theorem dX11_goesOn_175 : decode cX11_goesOn 175 = .ok (.putfield 94, 3) := by decide +kernel
theorem dX11_goesOn_178 : decode cX11_goesOn 178 = .ok (.aload_n 0, 1) := by decide +kernel
theorem dX11_goesOn_179 : decode cX11_goesOn 179 = .ok (.aload_n 0, 1) := by decide +kernel
theorem dX11_goesOn_180 : decode cX11_goesOn 180 = .ok (.getfield 71, 3) := by decide +kernel
theorem dX11_goesOn_183 : decode cX11_goesOn 183 = .ok (.invokevirtual 74, 3) := by decide +kernel
theorem dX11_goesOn_186 : decode cX11_goesOn 186 = .ok (.invokestatic 91, 3) := by decide +kernel
theorem dX11_goesOn_189 : decode cX11_goesOn 189 = .ok (.ifCond .eq 47, 3) := by decide +kernel
theorem dX11_goesOn_192 : decode cX11_goesOn 192 = .ok (.iload_n 2, 1) := by decide +kernel
theorem dX11_goesOn_193 : decode cX11_goesOn 193 = .ok (.iconst 3, 1) := by decide +kernel
theorem dX11_goesOn_194 : decode cX11_goesOn 194 = .ok (.if_icmp .ge 26, 3) := by decide +kernel
theorem dX11_goesOn_197 : decode cX11_goesOn 197 = .ok (.aload_n 0, 1) := by decide +kernel
theorem dX11_goesOn_198 : decode cX11_goesOn 198 = .ok (.bipush 10, 2) := by decide +kernel
theorem dX11_goesOn_200 : decode cX11_goesOn 200 = .ok (.aload_n 0, 1) := by decide +kernel
theorem dX11_goesOn_201 : decode cX11_goesOn 201 = .ok (.getfield 94, 3) := by decide +kernel
theorem dX11_goesOn_204 : decode cX11_goesOn 204 = .ok (.imul, 1) := by decide +kernel
theorem dX11_goesOn_205 : decode cX11_goesOn 205 = .ok (.aload_n 0, 1) := by decide +kernel
theorem dX11_goesOn_206 : decode cX11_goesOn 206 = .ok (.aload_n 0, 1) := by decide +kernel
theorem dX11_goesOn_207 : decode cX11_goesOn 207 = .ok (.getfield 71, 3) := by decide +kernel
theorem dX11_goesOn_210 : decode cX11_goesOn 210 = .ok (.invokevirtual 74, 3) := by decide +kernel
theorem dX11_goesOn_213 : decode cX11_goesOn 213 = .ok (.iadd, 1) := by decide +kernel
theorem dX11_goesOn_214 : decode cX11_goesOn 214 = .ok (.bipush 48, 2) := by decide +kernel
theorem dX11_goesOn_216 : decode cX11_goesOn 216 = .ok (.isub, 1) := by decide +kernel
theorem dX11_goesOn_217 : decode cX11_goesOn 217 = .ok (.putfield 94, 3) := by decide +kernel
theorem dX11_goesOn_220 : decode cX11_goesOn 220 = .ok (.iinc 2 1, 3) := by decide +kernel
theorem dX11_goesOn_223 : decode cX11_goesOn 223 = .ok (.aload_n 0, 1) := by decide +kernel
theorem dX11_goesOn_224 : decode cX11_goesOn 224 = .ok (.dup, 1) := by decide +kernel
theorem dX11_goesOn_225 : decode cX11_goesOn 225 = .ok (.getfield 71, 3) := by decide +kernel
theorem dX11_goesOn_228 : decode cX11_goesOn 228 = .ok (.iconst 1, 1) := by decide +kernel
theorem dX11_goesOn_229 : decode cX11_goesOn 229 = .ok (.iadd, 1) := by decide +kernel
theorem dX11_goesOn_230 : decode cX11_goesOn 230 = .ok (.putfield 71, 3) := by decide +kernel
theorem dX11_goesOn_233 : decode cX11_goesOn 233 = .ok (.goto (-55), 3) := by decide +kernel
theorem dX11_goesOn_236 : decode cX11_goesOn 236 = .ok (.iload_n 2, 1) := by decide +kernel
theorem dX11_goesOn_237 : decode cX11_goesOn 237 = .ok (.iconst 3, 1) := by decide +kernel
theorem dX11_goesOn_238 : decode cX11_goesOn 238 = .ok (.if_icmp .gt 43, 3) := by decide +kernel
theorem dX11_goesOn_241 : decode cX11_goesOn 241 = .ok (.aload_n 0, 1) := by decide +kernel
theorem dX11_goesOn_242 : decode cX11_goesOn 242 = .ok (.iconst 3, 1) := by decide +kernel
theorem dX11_goesOn_243 : decode cX11_goesOn 243 = .ok (.putfield 68, 3) := by decide +kernel
theorem dX11_goesOn_246 : decode cX11_goesOn 246 = .ok (.goto 35, 3) := by decide +kernel
theorem dX11_goesOn_249 : decode cX11_goesOn 249 = .ok (.iload_n 1, 1) := by decide +kernel
theorem dX11_goesOn_250 : decode cX11_goesOn 250 = .ok (.bipush 59, 2) := by decide +kernel
theorem dX11_goesOn_252 : decode cX11_goesOn 252 = .ok (.if_icmp .eq 9, 3) := by decide +kernel
theorem dX11_goesOn_255 : decode cX11_goesOn 255 = .ok (.iload_n 1, 1) := by decide +kernel
theorem dX11_goesOn_256 : decode cX11_goesOn 256 = .ok (.bipush 44, 2) := by decide +kernel
theorem dX11_goesOn_258 : decode cX11_goesOn 258 = .ok (.if_icmp .ne 23, 3) := by decide +kernel
theorem dX11_goesOn_261 : decode cX11_goesOn 261 = .ok (.aload_n 0, 1) := by decide +kernel
theorem dX11_goesOn_262 : decode cX11_goesOn 262 = .ok (.iconst 4, 1) := by decide +kernel
theorem dX11_goesOn_263 : decode cX11_goesOn 263 = .ok (.putfield 68, 3) := by decide +kernel
theorem dX11_goesOn_266 : decode cX11_goesOn 266 = .ok (.aload_n 0, 1) := by decide +kernel
theorem dX11_goesOn_267 : decode cX11_goesOn 267 = .ok (.iload_n 1, 1) := by decide +kernel
theorem dX11_goesOn_268 : decode cX11_goesOn 268 = .ok (.putfield 80, 3) := by decide +kernel
theorem dX11_goesOn_271 : decode cX11_goesOn 271 = .ok (.aload_n 0, 1) := by decide +kernel
theorem dX11_goesOn_272 : decode cX11_goesOn 272 = .ok (.dup, 1) := by decide +kernel
theorem dX11_goesOn_273 : decode cX11_goesOn 273 = .ok (.getfield 71, 3) := by decide +kernel
theorem dX11_goesOn_276 : decode cX11_goesOn 276 = .ok (.iconst 1, 1) := by decide +kernel
theorem dX11_goesOn_277 : decode cX11_goesOn 277 = .ok (.iadd, 1) := by decide +kernel
theorem dX11_goesOn_278 : decode cX11_goesOn 278 = .ok (.putfield 71, 3) := by decide +kernel
theorem dX11_goesOn_281 : decode cX11_goesOn 281 = .ok (.return_, 1) := by decide +kernel
theorem dX11_flaw_0 : decode cX11_flaw 0 = .ok (.aload_n 0, 1) := by decide +kernel
theorem dX11_flaw_1 : decode cX11_flaw 1 = .ok (.getfield 68, 3) := by decide +kernel
theorem dX11_flaw_4 : decode cX11_flaw 4 = .ok (.iconst 5, 1) := by decide +kernel
theorem dX11_flaw_5 : decode cX11_flaw 5 = .ok (.if_icmp .ne 4, 3) := by decide +kernel
theorem dX11_flaw_8 : decode cX11_flaw 8 = .ok (.return_, 1) := by decide +kernel
theorem dX11_flaw_9 : decode cX11_flaw 9 = .ok (.aload_n 0, 1) := by decide +kernel
theorem dX11_flaw_10 : decode cX11_flaw 10 = .ok (.iload_n 1, 1) := by decide +kernel
theorem dX11_flaw_11 : decode cX11_flaw 11 = .ok (.putfield 97, 3) := by decide +kernel
theorem dX11_flaw_14 : decode cX11_flaw 14 = .ok (.aload_n 0, 1) := by decide +kernel
theorem dX11_flaw_15 : decode cX11_flaw 15 = .ok (.aload_n 0, 1) := by decide +kernel
theorem dX11_flaw_16 : decode cX11_flaw 16 = .ok (.getfield 77, 3) := by decide +kernel
theorem dX11_flaw_19 : decode cX11_flaw 19 = .ok (.putfield 100, 3) := by decide +kernel
theorem dX11_flaw_22 : decode cX11_flaw 22 = .ok (.aload_n 0, 1) := by decide +kernel
theorem dX11_flaw_23 : decode cX11_flaw 23 = .ok (.iconst 5, 1) := by decide +kernel
theorem dX11_flaw_24 : decode cX11_flaw 24 = .ok (.putfield 68, 3) := by decide +kernel
theorem dX11_flaw_27 : decode cX11_flaw 27 = .ok (.return_, 1) := by decide +kernel
theorem dX11_isWord_0 : decode cX11_isWord 0 = .ok (.aload_n 0, 1) := by decide +kernel
theorem dX11_isWord_1 : decode cX11_isWord 1 = .ok (.getfield 68, 3) := by decide +kernel
theorem dX11_isWord_4 : decode cX11_isWord 4 = .ok (.iconst 2, 1) := by decide +kernel
theorem dX11_isWord_5 : decode cX11_isWord 5 = .ok (.if_icmp .ne 19, 3) := by decide +kernel
