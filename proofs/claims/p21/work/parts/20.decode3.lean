theorem dX11_fitOf_63 : decode cX11_fitOf 63 = .ok (.iload 8, 2) := by decide +kernel
theorem dX11_fitOf_65 : decode cX11_fitOf 65 = .ok (.aload_n 0, 1) := by decide +kernel
theorem dX11_fitOf_66 : decode cX11_fitOf 66 = .ok (.getfield 338, 3) := by decide +kernel
theorem dX11_fitOf_69 : decode cX11_fitOf 69 = .ok (.getfield 320, 3) := by decide +kernel
theorem dX11_fitOf_72 : decode cX11_fitOf 72 = .ok (.iload_n 3, 1) := by decide +kernel
theorem dX11_fitOf_73 : decode cX11_fitOf 73 = .ok (.iaload, 1) := by decide +kernel
theorem dX11_fitOf_74 : decode cX11_fitOf 74 = .ok (.if_icmp .gt 116, 3) := by decide +kernel
theorem dX11_fitOf_77 : decode cX11_fitOf 77 = .ok (.iconst 1, 1) := by decide +kernel
theorem dX11_fitOf_78 : decode cX11_fitOf 78 = .ok (.istore 9, 2) := by decide +kernel
theorem dX11_fitOf_80 : decode cX11_fitOf 80 = .ok (.iconst 0, 1) := by decide +kernel
theorem dX11_fitOf_81 : decode cX11_fitOf 81 = .ok (.istore 10, 2) := by decide +kernel
theorem dX11_fitOf_83 : decode cX11_fitOf 83 = .ok (.iload 10, 2) := by decide +kernel
theorem dX11_fitOf_85 : decode cX11_fitOf 85 = .ok (.iconst 5, 1) := by decide +kernel
theorem dX11_fitOf_86 : decode cX11_fitOf 86 = .ok (.if_icmp .ge 59, 3) := by decide +kernel
theorem dX11_fitOf_89 : decode cX11_fitOf 89 = .ok (.iload 9, 2) := by decide +kernel
theorem dX11_fitOf_91 : decode cX11_fitOf 91 = .ok (.ifCond .eq 45, 3) := by decide +kernel
theorem dX11_fitOf_94 : decode cX11_fitOf 94 = .ok (.aload_n 0, 1) := by decide +kernel
theorem dX11_fitOf_95 : decode cX11_fitOf 95 = .ok (.iload_n 3, 1) := by decide +kernel
theorem dX11_fitOf_96 : decode cX11_fitOf 96 = .ok (.iload 5, 2) := by decide +kernel
theorem dX11_fitOf_98 : decode cX11_fitOf 98 = .ok (.iload 6, 2) := by decide +kernel
theorem dX11_fitOf_100 : decode cX11_fitOf 100 = .ok (.iload 7, 2) := by decide +kernel
theorem dX11_fitOf_102 : decode cX11_fitOf 102 = .ok (.iload 8, 2) := by decide +kernel
theorem dX11_fitOf_104 : decode cX11_fitOf 104 = .ok (.iload 10, 2) := by decide +kernel
theorem dX11_fitOf_106 : decode cX11_fitOf 106 = .ok (.invokevirtual 379, 3) := by decide +kernel
theorem dX11_fitOf_109 : decode cX11_fitOf 109 = .ok (.ldc2_w 387, 3) := by decide +kernel
theorem dX11_fitOf_112 : decode cX11_fitOf 112 = .ok (.aload_n 0, 1) := by decide +kernel
theorem dX11_fitOf_113 : decode cX11_fitOf 113 = .ok (.getfield 338, 3) := by decide +kernel
theorem dX11_fitOf_116 : decode cX11_fitOf 116 = .ok (.getfield 326, 3) := by decide +kernel
theorem dX11_fitOf_119 : decode cX11_fitOf 119 = .ok (.iconst 5, 1) := by decide +kernel
theorem dX11_fitOf_120 : decode cX11_fitOf 120 = .ok (.iload_n 1, 1) := by decide +kernel
theorem dX11_fitOf_121 : decode cX11_fitOf 121 = .ok (.imul, 1) := by decide +kernel
theorem dX11_fitOf_122 : decode cX11_fitOf 122 = .ok (.iload 10, 2) := by decide +kernel
theorem dX11_fitOf_124 : decode cX11_fitOf 124 = .ok (.iadd, 1) := by decide +kernel
theorem dX11_fitOf_125 : decode cX11_fitOf 125 = .ok (.iaload, 1) := by decide +kernel
theorem dX11_fitOf_126 : decode cX11_fitOf 126 = .ok (.i2l, 1) := by decide +kernel
theorem dX11_fitOf_127 : decode cX11_fitOf 127 = .ok (.lmul, 1) := by decide +kernel
theorem dX11_fitOf_128 : decode cX11_fitOf 128 = .ok (.lcmp, 1) := by decide +kernel
theorem dX11_fitOf_129 : decode cX11_fitOf 129 = .ok (.ifCond .ne 7, 3) := by decide +kernel
theorem dX11_fitOf_132 : decode cX11_fitOf 132 = .ok (.iconst 1, 1) := by decide +kernel
theorem dX11_fitOf_133 : decode cX11_fitOf 133 = .ok (.goto 4, 3) := by decide +kernel
theorem dX11_fitOf_136 : decode cX11_fitOf 136 = .ok (.iconst 0, 1) := by decide +kernel
theorem dX11_fitOf_137 : decode cX11_fitOf 137 = .ok (.istore 9, 2) := by decide +kernel
theorem dX11_fitOf_139 : decode cX11_fitOf 139 = .ok (.iinc 10 1, 3) := by decide +kernel
theorem dX11_fitOf_142 : decode cX11_fitOf 142 = .ok (.goto (-59), 3) := by decide +kernel
theorem dX11_fitOf_145 : decode cX11_fitOf 145 = .ok (.iload 9, 2) := by decide +kernel
theorem dX11_fitOf_147 : decode cX11_fitOf 147 = .ok (.ifCond .ne 6, 3) := by decide +kernel
theorem dX11_fitOf_150 : decode cX11_fitOf 150 = .ok (.goto 34, 3) := by decide +kernel
theorem dX11_fitOf_153 : decode cX11_fitOf 153 = .ok (.iload 4, 2) := by decide +kernel
theorem dX11_fitOf_155 : decode cX11_fitOf 155 = .ok (.iload_n 2, 1) := by decide +kernel
theorem dX11_fitOf_156 : decode cX11_fitOf 156 = .ok (.if_icmp .ne 25, 3) := by decide +kernel
theorem dX11_fitOf_159 : decode cX11_fitOf 159 = .ok (.sipush 1000, 3) := by decide +kernel
theorem dX11_fitOf_162 : decode cX11_fitOf 162 = .ok (.iload 5, 2) := by decide +kernel
theorem dX11_fitOf_164 : decode cX11_fitOf 164 = .ok (.imul, 1) := by decide +kernel
theorem dX11_fitOf_165 : decode cX11_fitOf 165 = .ok (.bipush 100, 2) := by decide +kernel
theorem dX11_fitOf_167 : decode cX11_fitOf 167 = .ok (.iload 6, 2) := by decide +kernel
theorem dX11_fitOf_169 : decode cX11_fitOf 169 = .ok (.imul, 1) := by decide +kernel
theorem dX11_fitOf_170 : decode cX11_fitOf 170 = .ok (.iadd, 1) := by decide +kernel
theorem dX11_fitOf_171 : decode cX11_fitOf 171 = .ok (.bipush 10, 2) := by decide +kernel
theorem dX11_fitOf_173 : decode cX11_fitOf 173 = .ok (.iload 7, 2) := by decide +kernel
theorem dX11_fitOf_175 : decode cX11_fitOf 175 = .ok (.imul, 1) := by decide +kernel
theorem dX11_fitOf_176 : decode cX11_fitOf 176 = .ok (.iadd, 1) := by decide +kernel
theorem dX11_fitOf_177 : decode cX11_fitOf 177 = .ok (.iload 8, 2) := by decide +kernel
theorem dX11_fitOf_179 : decode cX11_fitOf 179 = .ok (.iadd, 1) := by decide +kernel
theorem dX11_fitOf_180 : decode cX11_fitOf 180 = .ok (.ireturn, 1) := by decide +kernel
theorem dX11_fitOf_181 : decode cX11_fitOf 181 = .ok (.iinc 4 1, 3) := by decide +kernel
theorem dX11_fitOf_184 : decode cX11_fitOf 184 = .ok (.iinc 8 1, 3) := by decide +kernel
theorem dX11_fitOf_187 : decode cX11_fitOf 187 = .ok (.goto (-124), 3) := by decide +kernel
theorem dX11_fitOf_190 : decode cX11_fitOf 190 = .ok (.iinc 7 1, 3) := by decide +kernel
theorem dX11_fitOf_193 : decode cX11_fitOf 193 = .ok (.goto (-153), 3) := by decide +kernel
theorem dX11_fitOf_196 : decode cX11_fitOf 196 = .ok (.iinc 6 1, 3) := by decide +kernel
theorem dX11_fitOf_199 : decode cX11_fitOf 199 = .ok (.goto (-168), 3) := by decide +kernel
theorem dX11_fitOf_202 : decode cX11_fitOf 202 = .ok (.iinc 5 1, 3) := by decide +kernel
theorem dX11_fitOf_205 : decode cX11_fitOf 205 = .ok (.goto (-189), 3) := by decide +kernel
theorem dX11_fitOf_208 : decode cX11_fitOf 208 = .ok (.iload_n 2, 1) := by decide +kernel
theorem dX11_fitOf_209 : decode cX11_fitOf 209 = .ok (.ifCond .ge 8, 3) := by decide +kernel
theorem dX11_fitOf_212 : decode cX11_fitOf 212 = .ok (.iload 4, 2) := by decide +kernel
theorem dX11_fitOf_214 : decode cX11_fitOf 214 = .ok (.goto 4, 3) := by decide +kernel
theorem dX11_fitOf_217 : decode cX11_fitOf 217 = .ok (.iconst (-1), 1) := by decide +kernel
theorem dX11_fitOf_218 : decode cX11_fitOf 218 = .ok (.ireturn, 1) := by decide +kernel
theorem dX11_fits_0 : decode cX11_fits 0 = .ok (.aload_n 0, 1) := by decide +kernel
theorem dX11_fits_1 : decode cX11_fits 1 = .ok (.iconst 0, 1) := by decide +kernel
theorem dX11_fits_2 : decode cX11_fits 2 = .ok (.putfield 40, 3) := by decide +kernel
theorem dX11_fits_5 : decode cX11_fits 5 = .ok (.aload_n 0, 1) := by decide +kernel
theorem dX11_fits_6 : decode cX11_fits 6 = .ok (.iload_n 1, 1) := by decide +kernel
theorem dX11_fits_7 : decode cX11_fits 7 = .ok (.invokevirtual 468, 3) := by decide +kernel
theorem dX11_fits_10 : decode cX11_fits 10 = .ok (.ifCond .eq 16, 3) := by decide +kernel
theorem dX11_fits_13 : decode cX11_fits 13 = .ok (.aload_n 0, 1) := by decide +kernel
theorem dX11_fits_14 : decode cX11_fits 14 = .ok (.aload_n 0, 1) := by decide +kernel
theorem dX11_fits_15 : decode cX11_fits 15 = .ok (.iload_n 1, 1) := by decide +kernel
theorem dX11_fits_16 : decode cX11_fits 16 = .ok (.iconst (-1), 1) := by decide +kernel
theorem dX11_fits_17 : decode cX11_fits 17 = .ok (.invokevirtual 471, 3) := by decide +kernel
theorem dX11_fits_20 : decode cX11_fits 20 = .ok (.invokevirtual 50, 3) := by decide +kernel
theorem dX11_fits_23 : decode cX11_fits 23 = .ok (.goto 8, 3) := by decide +kernel
theorem dX11_fits_26 : decode cX11_fits 26 = .ok (.aload_n 0, 1) := by decide +kernel
theorem dX11_fits_27 : decode cX11_fits 27 = .ok (.iconst 1, 1) := by decide +kernel
theorem dX11_fits_28 : decode cX11_fits 28 = .ok (.invokevirtual 46, 3) := by decide +kernel
theorem dX11_fits_31 : decode cX11_fits 31 = .ok (.ireturn, 1) := by decide +kernel
theorem dX11_fit_0 : decode cX11_fit 0 = .ok (.aload_n 0, 1) := by decide +kernel
theorem dX11_fit_1 : decode cX11_fit 1 = .ok (.iconst 0, 1) := by decide +kernel
theorem dX11_fit_2 : decode cX11_fit 2 = .ok (.putfield 40, 3) := by decide +kernel
theorem dX11_fit_5 : decode cX11_fit 5 = .ok (.aload_n 0, 1) := by decide +kernel
theorem dX11_fit_6 : decode cX11_fit 6 = .ok (.iload_n 1, 1) := by decide +kernel
theorem dX11_fit_7 : decode cX11_fit 7 = .ok (.invokevirtual 468, 3) := by decide +kernel
theorem dX11_fit_10 : decode cX11_fit 10 = .ok (.ifCond .eq 16, 3) := by decide +kernel
theorem dX11_fit_13 : decode cX11_fit 13 = .ok (.iload_n 2, 1) := by decide +kernel
theorem dX11_fit_14 : decode cX11_fit 14 = .ok (.ifCond .lt 12, 3) := by decide +kernel
theorem dX11_fit_17 : decode cX11_fit 17 = .ok (.aload_n 0, 1) := by decide +kernel
theorem dX11_fit_18 : decode cX11_fit 18 = .ok (.iload_n 1, 1) := by decide +kernel
theorem dX11_fit_19 : decode cX11_fit 19 = .ok (.iload_n 2, 1) := by decide +kernel
theorem dX11_fit_20 : decode cX11_fit 20 = .ok (.invokevirtual 471, 3) := by decide +kernel
theorem dX11_fit_23 : decode cX11_fit 23 = .ok (.goto 4, 3) := by decide +kernel
theorem dX11_fit_26 : decode cX11_fit 26 = .ok (.iconst (-1), 1) := by decide +kernel
theorem dX11_fit_27 : decode cX11_fit 27 = .ok (.istore_n 3, 1) := by decide +kernel
theorem dX11_fit_28 : decode cX11_fit 28 = .ok (.iload_n 3, 1) := by decide +kernel
theorem dX11_fit_29 : decode cX11_fit 29 = .ok (.iconst (-1), 1) := by decide +kernel
theorem dX11_fit_30 : decode cX11_fit 30 = .ok (.if_icmp .ne 11, 3) := by decide +kernel
theorem dX11_fit_33 : decode cX11_fit 33 = .ok (.aload_n 0, 1) := by decide +kernel
theorem dX11_fit_34 : decode cX11_fit 34 = .ok (.iconst 1, 1) := by decide +kernel
theorem dX11_fit_35 : decode cX11_fit 35 = .ok (.invokevirtual 46, 3) := by decide +kernel
theorem dX11_fit_38 : decode cX11_fit 38 = .ok (.goto 8, 3) := by decide +kernel
theorem dX11_fit_41 : decode cX11_fit 41 = .ok (.aload_n 0, 1) := by decide +kernel
theorem dX11_fit_42 : decode cX11_fit 42 = .ok (.iload_n 3, 1) := by decide +kernel
theorem dX11_fit_43 : decode cX11_fit 43 = .ok (.invokevirtual 50, 3) := by decide +kernel
theorem dX11_fit_46 : decode cX11_fit 46 = .ok (.ireturn, 1) := by decide +kernel
theorem dX11_lies_0 : decode cX11_lies 0 = .ok (.aload_n 0, 1) := by decide +kernel
theorem dX11_lies_1 : decode cX11_lies 1 = .ok (.iconst 0, 1) := by decide +kernel
theorem dX11_lies_2 : decode cX11_lies 2 = .ok (.putfield 40, 3) := by decide +kernel
theorem dX11_lies_5 : decode cX11_lies 5 = .ok (.aload_n 0, 1) := by decide +kernel
theorem dX11_lies_6 : decode cX11_lies 6 = .ok (.getfield 338, 3) := by decide +kernel
theorem dX11_lies_9 : decode cX11_lies 9 = .ok (.ifnonnull 9, 3) := by decide +kernel
theorem dX11_lies_12 : decode cX11_lies 12 = .ok (.aload_n 0, 1) := by decide +kernel
theorem dX11_lies_13 : decode cX11_lies 13 = .ok (.iconst 1, 1) := by decide +kernel
theorem dX11_lies_14 : decode cX11_lies 14 = .ok (.invokevirtual 46, 3) := by decide +kernel
theorem dX11_lies_17 : decode cX11_lies 17 = .ok (.ireturn, 1) := by decide +kernel
theorem dX11_lies_18 : decode cX11_lies 18 = .ok (.iconst 0, 1) := by decide +kernel
theorem dX11_lies_19 : decode cX11_lies 19 = .ok (.istore_n 1, 1) := by decide +kernel
theorem dX11_lies_20 : decode cX11_lies 20 = .ok (.iconst 0, 1) := by decide +kernel
theorem dX11_lies_21 : decode cX11_lies 21 = .ok (.istore_n 2, 1) := by decide +kernel
theorem dX11_lies_22 : decode cX11_lies 22 = .ok (.iload_n 2, 1) := by decide +kernel
theorem dX11_lies_23 : decode cX11_lies 23 = .ok (.aload_n 0, 1) := by decide +kernel
theorem dX11_lies_24 : decode cX11_lies 24 = .ok (.getfield 338, 3) := by decide +kernel
theorem dX11_lies_27 : decode cX11_lies 27 = .ok (.getfield 323, 3) := by decide +kernel
theorem dX11_lies_30 : decode cX11_lies 30 = .ok (.if_icmp .ge 28, 3) := by decide +kernel
theorem dX11_lies_33 : decode cX11_lies 33 = .ok (.iload_n 1, 1) := by decide +kernel
theorem dX11_lies_34 : decode cX11_lies 34 = .ok (.aload_n 0, 1) := by decide +kernel
theorem dX11_lies_35 : decode cX11_lies 35 = .ok (.iload_n 2, 1) := by decide +kernel
theorem dX11_lies_36 : decode cX11_lies 36 = .ok (.iconst (-1), 1) := by decide +kernel
theorem dX11_lies_37 : decode cX11_lies 37 = .ok (.invokevirtual 471, 3) := by decide +kernel
theorem dX11_lies_40 : decode cX11_lies 40 = .ok (.ifCond .ne 9, 3) := by decide +kernel
theorem dX11_lies_43 : decode cX11_lies 43 = .ok (.iconst 1, 1) := by decide +kernel
theorem dX11_lies_44 : decode cX11_lies 44 = .ok (.iload_n 2, 1) := by decide +kernel
theorem dX11_lies_45 : decode cX11_lies 45 = .ok (.ishl, 1) := by decide +kernel
theorem dX11_lies_46 : decode cX11_lies 46 = .ok (.goto 4, 3) := by decide +kernel
theorem dX11_lies_49 : decode cX11_lies 49 = .ok (.iconst 0, 1) := by decide +kernel
theorem dX11_lies_50 : decode cX11_lies 50 = .ok (.ior, 1) := by decide +kernel
theorem dX11_lies_51 : decode cX11_lies 51 = .ok (.istore_n 1, 1) := by decide +kernel
theorem dX11_lies_52 : decode cX11_lies 52 = .ok (.iinc 2 1, 3) := by decide +kernel
theorem dX11_lies_55 : decode cX11_lies 55 = .ok (.goto (-33), 3) := by decide +kernel
theorem dX11_lies_58 : decode cX11_lies 58 = .ok (.aload_n 0, 1) := by decide +kernel
theorem dX11_lies_59 : decode cX11_lies 59 = .ok (.iload_n 1, 1) := by decide +kernel
theorem dX11_lies_60 : decode cX11_lies 60 = .ok (.invokevirtual 50, 3) := by decide +kernel
theorem dX11_lies_63 : decode cX11_lies 63 = .ok (.ireturn, 1) := by decide +kernel
theorem dX11_isDay_0 : decode cX11_isDay 0 = .ok (.aload_n 0, 1) := by decide +kernel
theorem dX11_isDay_1 : decode cX11_isDay 1 = .ok (.getfield 338, 3) := by decide +kernel
theorem dX11_isDay_4 : decode cX11_isDay 4 = .ok (.ifnull 16, 3) := by decide +kernel
theorem dX11_isDay_7 : decode cX11_isDay 7 = .ok (.aload_n 0, 1) := by decide +kernel
theorem dX11_isDay_8 : decode cX11_isDay 8 = .ok (.getfield 28, 3) := by decide +kernel
theorem dX11_isDay_11 : decode cX11_isDay 11 = .ok (.bipush (-2), 2) := by decide +kernel
theorem dX11_isDay_13 : decode cX11_isDay 13 = .ok (.if_icmp .eq 7, 3) := by decide +kernel
theorem dX11_isDay_16 : decode cX11_isDay 16 = .ok (.iconst 1, 1) := by decide +kernel
theorem dX11_isDay_17 : decode cX11_isDay 17 = .ok (.goto 4, 3) := by decide +kernel
theorem dX11_isDay_20 : decode cX11_isDay 20 = .ok (.iconst 0, 1) := by decide +kernel
theorem dX11_isDay_21 : decode cX11_isDay 21 = .ok (.ireturn, 1) := by decide +kernel
theorem dX11_day_0 : decode cX11_day 0 = .ok (.aload_n 0, 1) := by decide +kernel
theorem dX11_day_1 : decode cX11_day 1 = .ok (.iconst 0, 1) := by decide +kernel
theorem dX11_day_2 : decode cX11_day 2 = .ok (.putfield 40, 3) := by decide +kernel
theorem dX11_day_5 : decode cX11_day 5 = .ok (.aload_n 0, 1) := by decide +kernel
theorem dX11_day_6 : decode cX11_day 6 = .ok (.iload_n 1, 1) := by decide +kernel
theorem dX11_day_7 : decode cX11_day 7 = .ok (.invokevirtual 346, 3) := by decide +kernel
theorem dX11_day_10 : decode cX11_day 10 = .ok (.ifCond .eq 11, 3) := by decide +kernel
theorem dX11_day_13 : decode cX11_day 13 = .ok (.aload_n 0, 1) := by decide +kernel
theorem dX11_day_14 : decode cX11_day 14 = .ok (.iload_n 2, 1) := by decide +kernel
theorem dX11_day_15 : decode cX11_day 15 = .ok (.invokevirtual 455, 3) := by decide +kernel
theorem dX11_day_18 : decode cX11_day 18 = .ok (.ifCond .ne 9, 3) := by decide +kernel
theorem dX11_day_21 : decode cX11_day 21 = .ok (.aload_n 0, 1) := by decide +kernel
theorem dX11_day_22 : decode cX11_day 22 = .ok (.iconst 1, 1) := by decide +kernel
theorem dX11_day_23 : decode cX11_day 23 = .ok (.invokevirtual 46, 3) := by decide +kernel
theorem dX11_day_26 : decode cX11_day 26 = .ok (.ireturn, 1) := by decide +kernel
theorem dX11_day_27 : decode cX11_day 27 = .ok (.iload_n 3, 1) := by decide +kernel
theorem dX11_day_28 : decode cX11_day 28 = .ok (.iconst 0, 1) := by decide +kernel
theorem dX11_day_29 : decode cX11_day 29 = .ok (.sipush 400, 3) := by decide +kernel
theorem dX11_day_32 : decode cX11_day 32 = .ok (.invokestatic 118, 3) := by decide +kernel
theorem dX11_day_35 : decode cX11_day 35 = .ok (.ifCond .eq 15, 3) := by decide +kernel
theorem dX11_day_38 : decode cX11_day 38 = .ok (.iload 4, 2) := by decide +kernel
theorem dX11_day_40 : decode cX11_day 40 = .ok (.iconst 0, 1) := by decide +kernel
theorem dX11_day_41 : decode cX11_day 41 = .ok (.ldc_w 474, 3) := by decide +kernel
theorem dX11_day_44 : decode cX11_day 44 = .ok (.invokestatic 118, 3) := by decide +kernel
theorem dX11_day_47 : decode cX11_day 47 = .ok (.ifCond .ne 9, 3) := by decide +kernel
theorem dX11_day_50 : decode cX11_day 50 = .ok (.aload_n 0, 1) := by decide +kernel
theorem dX11_day_51 : decode cX11_day 51 = .ok (.iconst 2, 1) := by decide +kernel
theorem dX11_day_52 : decode cX11_day 52 = .ok (.invokevirtual 46, 3) := by decide +kernel
theorem dX11_day_55 : decode cX11_day 55 = .ok (.ireturn, 1) := by decide +kernel
theorem dX11_day_56 : decode cX11_day 56 = .ok (.aload_n 0, 1) := by decide +kernel
theorem dX11_day_57 : decode cX11_day 57 = .ok (.iload_n 1, 1) := by decide +kernel
theorem dX11_day_58 : decode cX11_day 58 = .ok (.putfield 28, 3) := by decide +kernel
theorem dX11_day_61 : decode cX11_day 61 = .ok (.aload_n 0, 1) := by decide +kernel
theorem dX11_day_62 : decode cX11_day 62 = .ok (.iconst 0, 1) := by decide +kernel
theorem dX11_day_63 : decode cX11_day 63 = .ok (.putfield 475, 3) := by decide +kernel
theorem dX11_day_66 : decode cX11_day 66 = .ok (.iload 4, 2) := by decide +kernel
theorem dX11_day_68 : decode cX11_day 68 = .ok (.istore 5, 2) := by decide +kernel
theorem dX11_day_70 : decode cX11_day 70 = .ok (.iconst 0, 1) := by decide +kernel
theorem dX11_day_71 : decode cX11_day 71 = .ok (.istore 6, 2) := by decide +kernel
theorem dX11_day_73 : decode cX11_day 73 = .ok (.iload 6, 2) := by decide +kernel
theorem dX11_day_75 : decode cX11_day 75 = .ok (.aload_n 0, 1) := by decide +kernel
theorem dX11_day_76 : decode cX11_day 76 = .ok (.getfield 338, 3) := by decide +kernel
theorem dX11_day_79 : decode cX11_day 79 = .ok (.getfield 219, 3) := by decide +kernel
theorem dX11_day_82 : decode cX11_day 82 = .ok (.if_icmp .ge 62, 3) := by decide +kernel
theorem dX11_day_85 : decode cX11_day 85 = .ok (.ldc2_w 478, 3) := by decide +kernel
theorem dX11_day_88 : decode cX11_day 88 = .ok (.iload 5, 2) := by decide +kernel
theorem dX11_day_90 : decode cX11_day 90 = .ok (.i2l, 1) := by decide +kernel
theorem dX11_day_91 : decode cX11_day 91 = .ok (.lmul, 1) := by decide +kernel
theorem dX11_day_92 : decode cX11_day 92 = .ok (.ldc2_w 480, 3) := by decide +kernel
theorem dX11_day_95 : decode cX11_day 95 = .ok (.ladd, 1) := by decide +kernel
theorem dX11_day_96 : decode cX11_day 96 = .ok (.ldc2_w 482, 3) := by decide +kernel
theorem dX11_day_99 : decode cX11_day 99 = .ok (.lrem, 1) := by decide +kernel
theorem dX11_day_100 : decode cX11_day 100 = .ok (.l2i, 1) := by decide +kernel
theorem dX11_day_101 : decode cX11_day 101 = .ok (.istore 5, 2) := by decide +kernel
theorem dX11_day_103 : decode cX11_day 103 = .ok (.aload_n 0, 1) := by decide +kernel
theorem dX11_day_104 : decode cX11_day 104 = .ok (.dup, 1) := by decide +kernel
theorem dX11_day_105 : decode cX11_day 105 = .ok (.getfield 475, 3) := by decide +kernel
theorem dX11_day_108 : decode cX11_day 108 = .ok (.iload 5, 2) := by decide +kernel
theorem dX11_day_110 : decode cX11_day 110 = .ok (.bipush 100, 2) := by decide +kernel
theorem dX11_day_112 : decode cX11_day 112 = .ok (.irem, 1) := by decide +kernel
theorem dX11_day_113 : decode cX11_day 113 = .ok (.aload_n 0, 1) := by decide +kernel
theorem dX11_day_114 : decode cX11_day 114 = .ok (.getfield 338, 3) := by decide +kernel
theorem dX11_day_117 : decode cX11_day 117 = .ok (.getfield 246, 3) := by decide +kernel
theorem dX11_day_120 : decode cX11_day 120 = .ok (.iload 6, 2) := by decide +kernel
theorem dX11_day_122 : decode cX11_day 122 = .ok (.iaload, 1) := by decide +kernel
theorem dX11_day_123 : decode cX11_day 123 = .ok (.if_icmp .ge 10, 3) := by decide +kernel
theorem dX11_day_126 : decode cX11_day 126 = .ok (.iconst 1, 1) := by decide +kernel
theorem dX11_day_127 : decode cX11_day 127 = .ok (.iload 6, 2) := by decide +kernel
theorem dX11_day_129 : decode cX11_day 129 = .ok (.ishl, 1) := by decide +kernel
theorem dX11_day_130 : decode cX11_day 130 = .ok (.goto 4, 3) := by decide +kernel
theorem dX11_day_133 : decode cX11_day 133 = .ok (.iconst 0, 1) := by decide +kernel
theorem dX11_day_134 : decode cX11_day 134 = .ok (.ior, 1) := by decide +kernel
theorem dX11_day_135 : decode cX11_day 135 = .ok (.putfield 475, 3) := by decide +kernel
theorem dX11_day_138 : decode cX11_day 138 = .ok (.iinc 6 1, 3) := by decide +kernel
theorem dX11_day_141 : decode cX11_day 141 = .ok (.goto (-68), 3) := by decide +kernel
theorem dX11_day_144 : decode cX11_day 144 = .ok (.iconst 0, 1) := by decide +kernel
theorem dX11_day_145 : decode cX11_day 145 = .ok (.istore 6, 2) := by decide +kernel
theorem dX11_day_147 : decode cX11_day 147 = .ok (.iload 6, 2) := by decide +kernel
theorem dX11_day_149 : decode cX11_day 149 = .ok (.bipush 7, 2) := by decide +kernel
theorem dX11_day_151 : decode cX11_day 151 = .ok (.if_icmp .ge 17, 3) := by decide +kernel
theorem dX11_day_154 : decode cX11_day 154 = .ok (.aload_n 0, 1) := by decide +kernel
theorem dX11_day_155 : decode cX11_day 155 = .ok (.getfield 31, 3) := by decide +kernel
theorem dX11_day_158 : decode cX11_day 158 = .ok (.iload 6, 2) := by decide +kernel
theorem dX11_day_160 : decode cX11_day 160 = .ok (.lconst 0, 1) := by decide +kernel
theorem dX11_day_161 : decode cX11_day 161 = .ok (.lastore, 1) := by decide +kernel
theorem dX11_day_162 : decode cX11_day 162 = .ok (.iinc 6 1, 3) := by decide +kernel
theorem dX11_day_165 : decode cX11_day 165 = .ok (.goto (-18), 3) := by decide +kernel
theorem dX11_day_168 : decode cX11_day 168 = .ok (.aload_n 0, 1) := by decide +kernel
theorem dX11_day_169 : decode cX11_day 169 = .ok (.getfield 31, 3) := by decide +kernel
theorem dX11_day_172 : decode cX11_day 172 = .ok (.iconst 0, 1) := by decide +kernel
theorem dX11_day_173 : decode cX11_day 173 = .ok (.iload_n 2, 1) := by decide +kernel
theorem dX11_day_174 : decode cX11_day 174 = .ok (.i2l, 1) := by decide +kernel
theorem dX11_day_175 : decode cX11_day 175 = .ok (.lastore, 1) := by decide +kernel
theorem dX11_day_176 : decode cX11_day 176 = .ok (.aload_n 0, 1) := by decide +kernel
theorem dX11_day_177 : decode cX11_day 177 = .ok (.getfield 31, 3) := by decide +kernel
theorem dX11_day_180 : decode cX11_day 180 = .ok (.iconst 1, 1) := by decide +kernel
theorem dX11_day_181 : decode cX11_day 181 = .ok (.iload_n 3, 1) := by decide +kernel
theorem dX11_day_182 : decode cX11_day 182 = .ok (.i2l, 1) := by decide +kernel
theorem dX11_day_183 : decode cX11_day 183 = .ok (.lastore, 1) := by decide +kernel
theorem dX11_day_184 : decode cX11_day 184 = .ok (.aload_n 0, 1) := by decide +kernel
theorem dX11_day_185 : decode cX11_day 185 = .ok (.iconst 0, 1) := by decide +kernel
theorem dX11_day_186 : decode cX11_day 186 = .ok (.putfield 340, 3) := by decide +kernel
theorem dX11_day_189 : decode cX11_day 189 = .ok (.aload_n 0, 1) := by decide +kernel
theorem dX11_day_190 : decode cX11_day 190 = .ok (.iconst 0, 1) := by decide +kernel
theorem dX11_day_191 : decode cX11_day 191 = .ok (.putfield 343, 3) := by decide +kernel
theorem dX11_day_194 : decode cX11_day 194 = .ok (.aload_n 0, 1) := by decide +kernel
theorem dX11_day_195 : decode cX11_day 195 = .ok (.aload_n 0, 1) := by decide +kernel
theorem dX11_day_196 : decode cX11_day 196 = .ok (.getfield 475, 3) := by decide +kernel
theorem dX11_day_199 : decode cX11_day 199 = .ok (.invokevirtual 50, 3) := by decide +kernel
theorem dX11_day_202 : decode cX11_day 202 = .ok (.ireturn, 1) := by decide +kernel
theorem dX11_keeps_0 : decode cX11_keeps 0 = .ok (.aload_n 0, 1) := by decide +kernel
theorem dX11_keeps_1 : decode cX11_keeps 1 = .ok (.getfield 340, 3) := by decide +kernel
theorem dX11_keeps_4 : decode cX11_keeps 4 = .ok (.bipush 16, 2) := by decide +kernel
theorem dX11_keeps_6 : decode cX11_keeps 6 = .ok (.if_icmp .ne 42, 3) := by decide +kernel
theorem dX11_keeps_9 : decode cX11_keeps 9 = .ok (.iconst 0, 1) := by decide +kernel
theorem dX11_keeps_10 : decode cX11_keeps 10 = .ok (.istore_n 1, 1) := by decide +kernel
theorem dX11_keeps_11 : decode cX11_keeps 11 = .ok (.iload_n 1, 1) := by decide +kernel
theorem dX11_keeps_12 : decode cX11_keeps 12 = .ok (.bipush 105, 2) := by decide +kernel
theorem dX11_keeps_14 : decode cX11_keeps 14 = .ok (.if_icmp .ge 24, 3) := by decide +kernel
theorem dX11_keeps_17 : decode cX11_keeps 17 = .ok (.aload_n 0, 1) := by decide +kernel
theorem dX11_keeps_18 : decode cX11_keeps 18 = .ok (.getfield 34, 3) := by decide +kernel
theorem dX11_keeps_21 : decode cX11_keeps 21 = .ok (.iload_n 1, 1) := by decide +kernel
theorem dX11_keeps_22 : decode cX11_keeps 22 = .ok (.aload_n 0, 1) := by decide +kernel
theorem dX11_keeps_23 : decode cX11_keeps 23 = .ok (.getfield 34, 3) := by decide +kernel
theorem dX11_keeps_26 : decode cX11_keeps 26 = .ok (.iload_n 1, 1) := by decide +kernel
theorem dX11_keeps_27 : decode cX11_keeps 27 = .ok (.bipush 7, 2) := by decide +kernel
theorem dX11_keeps_29 : decode cX11_keeps 29 = .ok (.iadd, 1) := by decide +kernel
theorem dX11_keeps_30 : decode cX11_keeps 30 = .ok (.laload, 1) := by decide +kernel
theorem dX11_keeps_31 : decode cX11_keeps 31 = .ok (.lastore, 1) := by decide +kernel
theorem dX11_keeps_32 : decode cX11_keeps 32 = .ok (.iinc 1 1, 3) := by decide +kernel
theorem dX11_keeps_35 : decode cX11_keeps 35 = .ok (.goto (-24), 3) := by decide +kernel
theorem dX11_keeps_38 : decode cX11_keeps 38 = .ok (.aload_n 0, 1) := by decide +kernel
theorem dX11_keeps_39 : decode cX11_keeps 39 = .ok (.dup, 1) := by decide +kernel
theorem dX11_keeps_40 : decode cX11_keeps 40 = .ok (.getfield 340, 3) := by decide +kernel
theorem dX11_keeps_43 : decode cX11_keeps 43 = .ok (.iconst 1, 1) := by decide +kernel
theorem dX11_keeps_44 : decode cX11_keeps 44 = .ok (.isub, 1) := by decide +kernel
theorem dX11_keeps_45 : decode cX11_keeps 45 = .ok (.putfield 340, 3) := by decide +kernel
theorem dX11_keeps_48 : decode cX11_keeps 48 = .ok (.iconst 0, 1) := by decide +kernel
theorem dX11_keeps_49 : decode cX11_keeps 49 = .ok (.istore_n 1, 1) := by decide +kernel
theorem dX11_keeps_50 : decode cX11_keeps 50 = .ok (.iload_n 1, 1) := by decide +kernel
theorem dX11_keeps_51 : decode cX11_keeps 51 = .ok (.bipush 7, 2) := by decide +kernel
theorem dX11_keeps_53 : decode cX11_keeps 53 = .ok (.if_icmp .ge 29, 3) := by decide +kernel
theorem dX11_keeps_56 : decode cX11_keeps 56 = .ok (.aload_n 0, 1) := by decide +kernel
theorem dX11_keeps_57 : decode cX11_keeps 57 = .ok (.getfield 34, 3) := by decide +kernel
theorem dX11_keeps_60 : decode cX11_keeps 60 = .ok (.bipush 7, 2) := by decide +kernel
theorem dX11_keeps_62 : decode cX11_keeps 62 = .ok (.aload_n 0, 1) := by decide +kernel
theorem dX11_keeps_63 : decode cX11_keeps 63 = .ok (.getfield 340, 3) := by decide +kernel
theorem dX11_keeps_66 : decode cX11_keeps 66 = .ok (.imul, 1) := by decide +kernel
theorem dX11_keeps_67 : decode cX11_keeps 67 = .ok (.iload_n 1, 1) := by decide +kernel
theorem dX11_keeps_68 : decode cX11_keeps 68 = .ok (.iadd, 1) := by decide +kernel
theorem dX11_keeps_69 : decode cX11_keeps 69 = .ok (.aload_n 0, 1) := by decide +kernel
theorem dX11_keeps_70 : decode cX11_keeps 70 = .ok (.getfield 31, 3) := by decide +kernel
theorem dX11_keeps_73 : decode cX11_keeps 73 = .ok (.iload_n 1, 1) := by decide +kernel
theorem dX11_keeps_74 : decode cX11_keeps 74 = .ok (.laload, 1) := by decide +kernel
theorem dX11_keeps_75 : decode cX11_keeps 75 = .ok (.lastore, 1) := by decide +kernel
theorem dX11_keeps_76 : decode cX11_keeps 76 = .ok (.iinc 1 1, 3) := by decide +kernel
theorem dX11_keeps_79 : decode cX11_keeps 79 = .ok (.goto (-29), 3) := by decide +kernel
theorem dX11_keeps_82 : decode cX11_keeps 82 = .ok (.aload_n 0, 1) := by decide +kernel
theorem dX11_keeps_83 : decode cX11_keeps 83 = .ok (.dup, 1) := by decide +kernel
theorem dX11_keeps_84 : decode cX11_keeps 84 = .ok (.getfield 340, 3) := by decide +kernel
theorem dX11_keeps_87 : decode cX11_keeps 87 = .ok (.iconst 1, 1) := by decide +kernel
theorem dX11_keeps_88 : decode cX11_keeps 88 = .ok (.iadd, 1) := by decide +kernel
theorem dX11_keeps_89 : decode cX11_keeps 89 = .ok (.putfield 340, 3) := by decide +kernel
theorem dX11_keeps_92 : decode cX11_keeps 92 = .ok (.return_, 1) := by decide +kernel
theorem dX11_rainsIn_0 : decode cX11_rainsIn 0 = .ok (.aload_n 0, 1) := by decide +kernel
theorem dX11_rainsIn_1 : decode cX11_rainsIn 1 = .ok (.iload_n 1, 1) := by decide +kernel
theorem dX11_rainsIn_2 : decode cX11_rainsIn 2 = .ok (.invokevirtual 420, 3) := by decide +kernel
theorem dX11_rainsIn_5 : decode cX11_rainsIn 5 = .ok (.istore_n 2, 1) := by decide +kernel
theorem dX11_rainsIn_6 : decode cX11_rainsIn 6 = .ok (.iload_n 2, 1) := by decide +kernel
theorem dX11_rainsIn_7 : decode cX11_rainsIn 7 = .ok (.aload_n 0, 1) := by decide +kernel
theorem dX11_rainsIn_8 : decode cX11_rainsIn 8 = .ok (.getfield 338, 3) := by decide +kernel
theorem dX11_rainsIn_11 : decode cX11_rainsIn 11 = .ok (.getfield 219, 3) := by decide +kernel
theorem dX11_rainsIn_14 : decode cX11_rainsIn 14 = .ok (.if_icmp .ge 19, 3) := by decide +kernel
theorem dX11_rainsIn_17 : decode cX11_rainsIn 17 = .ok (.aload_n 0, 1) := by decide +kernel
theorem dX11_rainsIn_18 : decode cX11_rainsIn 18 = .ok (.getfield 475, 3) := by decide +kernel
theorem dX11_rainsIn_21 : decode cX11_rainsIn 21 = .ok (.iload_n 2, 1) := by decide +kernel
theorem dX11_rainsIn_22 : decode cX11_rainsIn 22 = .ok (.ishr, 1) := by decide +kernel
theorem dX11_rainsIn_23 : decode cX11_rainsIn 23 = .ok (.iconst 1, 1) := by decide +kernel
theorem dX11_rainsIn_24 : decode cX11_rainsIn 24 = .ok (.iand, 1) := by decide +kernel
theorem dX11_rainsIn_25 : decode cX11_rainsIn 25 = .ok (.iconst 1, 1) := by decide +kernel
theorem dX11_rainsIn_26 : decode cX11_rainsIn 26 = .ok (.if_icmp .ne 7, 3) := by decide +kernel
theorem dX11_rainsIn_29 : decode cX11_rainsIn 29 = .ok (.iconst 1, 1) := by decide +kernel
theorem dX11_rainsIn_30 : decode cX11_rainsIn 30 = .ok (.goto 4, 3) := by decide +kernel
theorem dX11_rainsIn_33 : decode cX11_rainsIn 33 = .ok (.iconst 0, 1) := by decide +kernel
theorem dX11_rainsIn_34 : decode cX11_rainsIn 34 = .ok (.ireturn, 1) := by decide +kernel
theorem dX11_go_0 : decode cX11_go 0 = .ok (.aload_n 0, 1) := by decide +kernel
theorem dX11_go_1 : decode cX11_go 1 = .ok (.iconst 0, 1) := by decide +kernel
theorem dX11_go_2 : decode cX11_go 2 = .ok (.putfield 40, 3) := by decide +kernel
theorem dX11_go_5 : decode cX11_go 5 = .ok (.aload_n 0, 1) := by decide +kernel
theorem dX11_go_6 : decode cX11_go 6 = .ok (.invokevirtual 484, 3) := by decide +kernel
theorem dX11_go_9 : decode cX11_go 9 = .ok (.ifCond .eq 20, 3) := by decide +kernel
theorem dX11_go_12 : decode cX11_go 12 = .ok (.aload_n 0, 1) := by decide +kernel
theorem dX11_go_13 : decode cX11_go 13 = .ok (.iload_n 1, 1) := by decide +kernel
theorem dX11_go_14 : decode cX11_go 14 = .ok (.invokevirtual 349, 3) := by decide +kernel
theorem dX11_go_17 : decode cX11_go 17 = .ok (.ifCond .eq 12, 3) := by decide +kernel
theorem dX11_go_20 : decode cX11_go 20 = .ok (.iload_n 2, 1) := by decide +kernel
theorem dX11_go_21 : decode cX11_go 21 = .ok (.iconst 0, 1) := by decide +kernel
theorem dX11_go_22 : decode cX11_go 22 = .ok (.iconst 1, 1) := by decide +kernel
theorem dX11_go_23 : decode cX11_go 23 = .ok (.invokestatic 118, 3) := by decide +kernel
theorem dX11_go_26 : decode cX11_go 26 = .ok (.ifCond .ne 9, 3) := by decide +kernel
theorem dX11_go_29 : decode cX11_go 29 = .ok (.aload_n 0, 1) := by decide +kernel
theorem dX11_go_30 : decode cX11_go 30 = .ok (.iconst 1, 1) := by decide +kernel
theorem dX11_go_31 : decode cX11_go 31 = .ok (.invokevirtual 46, 3) := by decide +kernel
theorem dX11_go_34 : decode cX11_go 34 = .ok (.ireturn, 1) := by decide +kernel
theorem dX11_go_35 : decode cX11_go 35 = .ok (.aload_n 0, 1) := by decide +kernel
theorem dX11_go_36 : decode cX11_go 36 = .ok (.aload_n 0, 1) := by decide +kernel
theorem dX11_go_37 : decode cX11_go 37 = .ok (.getfield 28, 3) := by decide +kernel
theorem dX11_go_40 : decode cX11_go 40 = .ok (.iload_n 3, 1) := by decide +kernel
theorem dX11_go_41 : decode cX11_go 41 = .ok (.invokevirtual 355, 3) := by decide +kernel
theorem dX11_go_44 : decode cX11_go 44 = .ok (.ifCond .ne 9, 3) := by decide +kernel
theorem dX11_go_47 : decode cX11_go 47 = .ok (.aload_n 0, 1) := by decide +kernel
theorem dX11_go_48 : decode cX11_go 48 = .ok (.iconst 2, 1) := by decide +kernel
theorem dX11_go_49 : decode cX11_go 49 = .ok (.invokevirtual 46, 3) := by decide +kernel
theorem dX11_go_52 : decode cX11_go 52 = .ok (.ireturn, 1) := by decide +kernel
theorem dX11_go_53 : decode cX11_go 53 = .ok (.aload_n 0, 1) := by decide +kernel
theorem dX11_go_54 : decode cX11_go 54 = .ok (.getfield 338, 3) := by decide +kernel
theorem dX11_go_57 : decode cX11_go 57 = .ok (.iload_n 1, 1) := by decide +kernel
theorem dX11_go_58 : decode cX11_go 58 = .ok (.iload_n 2, 1) := by decide +kernel
theorem dX11_go_59 : decode cX11_go 59 = .ok (.invokevirtual 436, 3) := by decide +kernel
theorem dX11_go_62 : decode cX11_go 62 = .ok (.i2l, 1) := by decide +kernel
theorem dX11_go_63 : decode cX11_go 63 = .ok (.aload_n 0, 1) := by decide +kernel
theorem dX11_go_64 : decode cX11_go 64 = .ok (.getfield 31, 3) := by decide +kernel
theorem dX11_go_67 : decode cX11_go 67 = .ok (.iconst 0, 1) := by decide +kernel
theorem dX11_go_68 : decode cX11_go 68 = .ok (.laload, 1) := by decide +kernel
theorem dX11_go_69 : decode cX11_go 69 = .ok (.lcmp, 1) := by decide +kernel
theorem dX11_go_70 : decode cX11_go 70 = .ok (.ifCond .eq 9, 3) := by decide +kernel
theorem dX11_go_73 : decode cX11_go 73 = .ok (.aload_n 0, 1) := by decide +kernel
theorem dX11_go_74 : decode cX11_go 74 = .ok (.iconst 5, 1) := by decide +kernel
theorem dX11_go_75 : decode cX11_go 75 = .ok (.invokevirtual 46, 3) := by decide +kernel
theorem dX11_go_78 : decode cX11_go 78 = .ok (.ireturn, 1) := by decide +kernel
theorem dX11_go_79 : decode cX11_go 79 = .ok (.aload_n 0, 1) := by decide +kernel
theorem dX11_go_80 : decode cX11_go 80 = .ok (.getfield 31, 3) := by decide +kernel
theorem dX11_go_83 : decode cX11_go 83 = .ok (.iconst 1, 1) := by decide +kernel
theorem dX11_go_84 : decode cX11_go 84 = .ok (.laload, 1) := by decide +kernel
theorem dX11_go_85 : decode cX11_go 85 = .ok (.l2i, 1) := by decide +kernel
theorem dX11_go_86 : decode cX11_go 86 = .ok (.istore 4, 2) := by decide +kernel
theorem dX11_go_88 : decode cX11_go 88 = .ok (.iload 4, 2) := by decide +kernel
theorem dX11_go_90 : decode cX11_go 90 = .ok (.aload_n 0, 1) := by decide +kernel
theorem dX11_go_91 : decode cX11_go 91 = .ok (.getfield 338, 3) := by decide +kernel
theorem dX11_go_94 : decode cX11_go 94 = .ok (.iload_n 1, 1) := by decide +kernel
theorem dX11_go_95 : decode cX11_go 95 = .ok (.iload_n 3, 1) := by decide +kernel
theorem dX11_go_96 : decode cX11_go 96 = .ok (.invokevirtual 399, 3) := by decide +kernel
theorem dX11_go_99 : decode cX11_go 99 = .ok (.iadd, 1) := by decide +kernel
theorem dX11_go_100 : decode cX11_go 100 = .ok (.sipush 999, 3) := by decide +kernel
theorem dX11_go_103 : decode cX11_go 103 = .ok (.if_icmp .le 9, 3) := by decide +kernel
theorem dX11_go_106 : decode cX11_go 106 = .ok (.aload_n 0, 1) := by decide +kernel
theorem dX11_go_107 : decode cX11_go 107 = .ok (.iconst 3, 1) := by decide +kernel
theorem dX11_go_108 : decode cX11_go 108 = .ok (.invokevirtual 46, 3) := by decide +kernel
theorem dX11_go_111 : decode cX11_go 111 = .ok (.ireturn, 1) := by decide +kernel
theorem dX11_go_112 : decode cX11_go 112 = .ok (.aload_n 0, 1) := by decide +kernel
theorem dX11_go_113 : decode cX11_go 113 = .ok (.invokevirtual 487, 3) := by decide +kernel
theorem dX11_go_116 : decode cX11_go 116 = .ok (.iconst 0, 1) := by decide +kernel
theorem dX11_go_117 : decode cX11_go 117 = .ok (.istore 5, 2) := by decide +kernel
theorem dX11_go_119 : decode cX11_go 119 = .ok (.iload 5, 2) := by decide +kernel
theorem dX11_go_121 : decode cX11_go 121 = .ok (.iconst 5, 1) := by decide +kernel
theorem dX11_go_122 : decode cX11_go 122 = .ok (.if_icmp .ge 49, 3) := by decide +kernel
theorem dX11_go_125 : decode cX11_go 125 = .ok (.aload_n 0, 1) := by decide +kernel
theorem dX11_go_126 : decode cX11_go 126 = .ok (.iload 4, 2) := by decide +kernel
theorem dX11_go_128 : decode cX11_go 128 = .ok (.invokevirtual 490, 3) := by decide +kernel
theorem dX11_go_131 : decode cX11_go 131 = .ok (.ifCond .eq 40, 3) := by decide +kernel
theorem dX11_go_134 : decode cX11_go 134 = .ok (.aload_n 0, 1) := by decide +kernel
theorem dX11_go_135 : decode cX11_go 135 = .ok (.getfield 31, 3) := by decide +kernel
theorem dX11_go_138 : decode cX11_go 138 = .ok (.iconst 2, 1) := by decide +kernel
theorem dX11_go_139 : decode cX11_go 139 = .ok (.iload 5, 2) := by decide +kernel
theorem dX11_go_141 : decode cX11_go 141 = .ok (.iadd, 1) := by decide +kernel
theorem dX11_go_142 : decode cX11_go 142 = .ok (.dup2, 1) := by decide +kernel
theorem dX11_go_143 : decode cX11_go 143 = .ok (.laload, 1) := by decide +kernel
theorem dX11_go_144 : decode cX11_go 144 = .ok (.aload_n 0, 1) := by decide +kernel
theorem dX11_go_145 : decode cX11_go 145 = .ok (.aload_n 0, 1) := by decide +kernel
theorem dX11_go_146 : decode cX11_go 146 = .ok (.getfield 28, 3) := by decide +kernel
theorem dX11_go_149 : decode cX11_go 149 = .ok (.iload_n 1, 1) := by decide +kernel
theorem dX11_go_150 : decode cX11_go 150 = .ok (.iload_n 2, 1) := by decide +kernel
theorem dX11_go_151 : decode cX11_go 151 = .ok (.aload_n 0, 1) := by decide +kernel
theorem dX11_go_152 : decode cX11_go 152 = .ok (.iload 4, 2) := by decide +kernel
theorem dX11_go_154 : decode cX11_go 154 = .ok (.invokevirtual 420, 3) := by decide +kernel
theorem dX11_go_157 : decode cX11_go 157 = .ok (.iload_n 3, 1) := by decide +kernel
theorem dX11_go_158 : decode cX11_go 158 = .ok (.iload 5, 2) := by decide +kernel
theorem dX11_go_160 : decode cX11_go 160 = .ok (.invokevirtual 379, 3) := by decide +kernel
theorem dX11_go_163 : decode cX11_go 163 = .ok (.ladd, 1) := by decide +kernel
theorem dX11_go_164 : decode cX11_go 164 = .ok (.lastore, 1) := by decide +kernel
theorem dX11_go_165 : decode cX11_go 165 = .ok (.iinc 5 1, 3) := by decide +kernel
theorem dX11_go_168 : decode cX11_go 168 = .ok (.goto (-49), 3) := by decide +kernel
theorem dX11_go_171 : decode cX11_go 171 = .ok (.aload_n 0, 1) := by decide +kernel
theorem dX11_go_172 : decode cX11_go 172 = .ok (.getfield 31, 3) := by decide +kernel
theorem dX11_go_175 : decode cX11_go 175 = .ok (.iconst 0, 1) := by decide +kernel
theorem dX11_go_176 : decode cX11_go 176 = .ok (.aload_n 0, 1) := by decide +kernel
theorem dX11_go_177 : decode cX11_go 177 = .ok (.getfield 338, 3) := by decide +kernel
theorem dX11_go_180 : decode cX11_go 180 = .ok (.iload_n 1, 1) := by decide +kernel
theorem dX11_go_181 : decode cX11_go 181 = .ok (.iload_n 2, 1) := by decide +kernel
theorem dX11_go_182 : decode cX11_go 182 = .ok (.invokevirtual 438, 3) := by decide +kernel
theorem dX11_go_185 : decode cX11_go 185 = .ok (.i2l, 1) := by decide +kernel
theorem dX11_go_186 : decode cX11_go 186 = .ok (.lastore, 1) := by decide +kernel
theorem dX11_go_187 : decode cX11_go 187 = .ok (.aload_n 0, 1) := by decide +kernel
theorem dX11_go_188 : decode cX11_go 188 = .ok (.getfield 31, 3) := by decide +kernel
theorem dX11_go_191 : decode cX11_go 191 = .ok (.iconst 1, 1) := by decide +kernel
theorem dX11_go_192 : decode cX11_go 192 = .ok (.iload 4, 2) := by decide +kernel
theorem dX11_go_194 : decode cX11_go 194 = .ok (.aload_n 0, 1) := by decide +kernel
theorem dX11_go_195 : decode cX11_go 195 = .ok (.getfield 338, 3) := by decide +kernel
theorem dX11_go_198 : decode cX11_go 198 = .ok (.iload_n 1, 1) := by decide +kernel
theorem dX11_go_199 : decode cX11_go 199 = .ok (.iload_n 3, 1) := by decide +kernel
theorem dX11_go_200 : decode cX11_go 200 = .ok (.invokevirtual 399, 3) := by decide +kernel
theorem dX11_go_203 : decode cX11_go 203 = .ok (.iadd, 1) := by decide +kernel
theorem dX11_go_204 : decode cX11_go 204 = .ok (.i2l, 1) := by decide +kernel
theorem dX11_go_205 : decode cX11_go 205 = .ok (.lastore, 1) := by decide +kernel
theorem dX11_go_206 : decode cX11_go 206 = .ok (.aload_n 0, 1) := by decide +kernel
theorem dX11_go_207 : decode cX11_go 207 = .ok (.aload_n 0, 1) := by decide +kernel
theorem dX11_go_208 : decode cX11_go 208 = .ok (.getfield 31, 3) := by decide +kernel
theorem dX11_go_211 : decode cX11_go 211 = .ok (.iconst 1, 1) := by decide +kernel
theorem dX11_go_212 : decode cX11_go 212 = .ok (.laload, 1) := by decide +kernel
theorem dX11_go_213 : decode cX11_go 213 = .ok (.l2i, 1) := by decide +kernel
theorem dX11_go_214 : decode cX11_go 214 = .ok (.invokevirtual 50, 3) := by decide +kernel
theorem dX11_go_217 : decode cX11_go 217 = .ok (.ireturn, 1) := by decide +kernel
theorem dX11_stay_0 : decode cX11_stay 0 = .ok (.aload_n 0, 1) := by decide +kernel
theorem dX11_stay_1 : decode cX11_stay 1 = .ok (.iconst 0, 1) := by decide +kernel
theorem dX11_stay_2 : decode cX11_stay 2 = .ok (.putfield 40, 3) := by decide +kernel
theorem dX11_stay_5 : decode cX11_stay 5 = .ok (.aload_n 0, 1) := by decide +kernel
theorem dX11_stay_6 : decode cX11_stay 6 = .ok (.invokevirtual 484, 3) := by decide +kernel
theorem dX11_stay_9 : decode cX11_stay 9 = .ok (.ifCond .ne 9, 3) := by decide +kernel
theorem dX11_stay_12 : decode cX11_stay 12 = .ok (.aload_n 0, 1) := by decide +kernel
theorem dX11_stay_13 : decode cX11_stay 13 = .ok (.iconst 1, 1) := by decide +kernel
theorem dX11_stay_14 : decode cX11_stay 14 = .ok (.invokevirtual 493, 3) := by decide +kernel
theorem dX11_stay_17 : decode cX11_stay 17 = .ok (.ireturn, 1) := by decide +kernel
theorem dX11_stay_18 : decode cX11_stay 18 = .ok (.iload_n 1, 1) := by decide +kernel
theorem dX11_stay_19 : decode cX11_stay 19 = .ok (.iconst 1, 1) := by decide +kernel
theorem dX11_stay_20 : decode cX11_stay 20 = .ok (.bipush 60, 2) := by decide +kernel
theorem dX11_stay_22 : decode cX11_stay 22 = .ok (.invokestatic 118, 3) := by decide +kernel
theorem dX11_stay_25 : decode cX11_stay 25 = .ok (.ifCond .ne 9, 3) := by decide +kernel
theorem dX11_stay_28 : decode cX11_stay 28 = .ok (.aload_n 0, 1) := by decide +kernel
theorem dX11_stay_29 : decode cX11_stay 29 = .ok (.iconst 2, 1) := by decide +kernel
theorem dX11_stay_30 : decode cX11_stay 30 = .ok (.invokevirtual 493, 3) := by decide +kernel
theorem dX11_stay_33 : decode cX11_stay 33 = .ok (.ireturn, 1) := by decide +kernel
theorem dX11_stay_34 : decode cX11_stay 34 = .ok (.aload_n 0, 1) := by decide +kernel
theorem dX11_stay_35 : decode cX11_stay 35 = .ok (.getfield 31, 3) := by decide +kernel
theorem dX11_stay_38 : decode cX11_stay 38 = .ok (.iconst 0, 1) := by decide +kernel
theorem dX11_stay_39 : decode cX11_stay 39 = .ok (.laload, 1) := by decide +kernel
theorem dX11_stay_40 : decode cX11_stay 40 = .ok (.l2i, 1) := by decide +kernel
theorem dX11_stay_41 : decode cX11_stay 41 = .ok (.istore_n 2, 1) := by decide +kernel
theorem dX11_stay_42 : decode cX11_stay 42 = .ok (.aload_n 0, 1) := by decide +kernel
theorem dX11_stay_43 : decode cX11_stay 43 = .ok (.iload_n 2, 1) := by decide +kernel
theorem dX11_stay_44 : decode cX11_stay 44 = .ok (.invokevirtual 448, 3) := by decide +kernel
theorem dX11_stay_47 : decode cX11_stay 47 = .ok (.ifCond .ne 9, 3) := by decide +kernel
theorem dX11_stay_50 : decode cX11_stay 50 = .ok (.aload_n 0, 1) := by decide +kernel
theorem dX11_stay_51 : decode cX11_stay 51 = .ok (.iconst 5, 1) := by decide +kernel
theorem dX11_stay_52 : decode cX11_stay 52 = .ok (.invokevirtual 493, 3) := by decide +kernel
theorem dX11_stay_55 : decode cX11_stay 55 = .ok (.ireturn, 1) := by decide +kernel
theorem dX11_stay_56 : decode cX11_stay 56 = .ok (.aload_n 0, 1) := by decide +kernel
theorem dX11_stay_57 : decode cX11_stay 57 = .ok (.getfield 31, 3) := by decide +kernel
theorem dX11_stay_60 : decode cX11_stay 60 = .ok (.iconst 1, 1) := by decide +kernel
theorem dX11_stay_61 : decode cX11_stay 61 = .ok (.laload, 1) := by decide +kernel
theorem dX11_stay_62 : decode cX11_stay 62 = .ok (.iload_n 1, 1) := by decide +kernel
theorem dX11_stay_63 : decode cX11_stay 63 = .ok (.i2l, 1) := by decide +kernel
theorem dX11_stay_64 : decode cX11_stay 64 = .ok (.ladd, 1) := by decide +kernel
theorem dX11_stay_65 : decode cX11_stay 65 = .ok (.ldc2_w 496, 3) := by decide +kernel
theorem dX11_stay_68 : decode cX11_stay 68 = .ok (.lcmp, 1) := by decide +kernel
theorem dX11_stay_69 : decode cX11_stay 69 = .ok (.ifCond .le 9, 3) := by decide +kernel
theorem dX11_stay_72 : decode cX11_stay 72 = .ok (.aload_n 0, 1) := by decide +kernel
theorem dX11_stay_73 : decode cX11_stay 73 = .ok (.iconst 3, 1) := by decide +kernel
theorem dX11_stay_74 : decode cX11_stay 74 = .ok (.invokevirtual 493, 3) := by decide +kernel
theorem dX11_stay_77 : decode cX11_stay 77 = .ok (.ireturn, 1) := by decide +kernel
theorem dX11_stay_78 : decode cX11_stay 78 = .ok (.aload_n 0, 1) := by decide +kernel
theorem dX11_stay_79 : decode cX11_stay 79 = .ok (.invokevirtual 487, 3) := by decide +kernel
theorem dX11_stay_82 : decode cX11_stay 82 = .ok (.iconst 0, 1) := by decide +kernel
theorem dX11_stay_83 : decode cX11_stay 83 = .ok (.istore_n 3, 1) := by decide +kernel
theorem dX11_stay_84 : decode cX11_stay 84 = .ok (.iload_n 3, 1) := by decide +kernel
theorem dX11_stay_85 : decode cX11_stay 85 = .ok (.iload_n 1, 1) := by decide +kernel
theorem dX11_stay_86 : decode cX11_stay 86 = .ok (.if_icmp .ge 63, 3) := by decide +kernel
theorem dX11_stay_89 : decode cX11_stay 89 = .ok (.aload_n 0, 1) := by decide +kernel
theorem dX11_stay_90 : decode cX11_stay 90 = .ok (.getfield 338, 3) := by decide +kernel
theorem dX11_stay_93 : decode cX11_stay 93 = .ok (.getfield 258, 3) := by decide +kernel
theorem dX11_stay_96 : decode cX11_stay 96 = .ok (.iload_n 2, 1) := by decide +kernel
theorem dX11_stay_97 : decode cX11_stay 97 = .ok (.baload, 1) := by decide +kernel
theorem dX11_stay_98 : decode cX11_stay 98 = .ok (.ifCond .ne 35, 3) := by decide +kernel
theorem dX11_stay_101 : decode cX11_stay 101 = .ok (.aload_n 0, 1) := by decide +kernel
theorem dX11_stay_102 : decode cX11_stay 102 = .ok (.aload_n 0, 1) := by decide +kernel
theorem dX11_stay_103 : decode cX11_stay 103 = .ok (.getfield 31, 3) := by decide +kernel
theorem dX11_stay_106 : decode cX11_stay 106 = .ok (.iconst 1, 1) := by decide +kernel
theorem dX11_stay_107 : decode cX11_stay 107 = .ok (.laload, 1) := by decide +kernel
theorem dX11_stay_108 : decode cX11_stay 108 = .ok (.l2i, 1) := by decide +kernel
theorem dX11_stay_109 : decode cX11_stay 109 = .ok (.invokevirtual 490, 3) := by decide +kernel
theorem dX11_stay_112 : decode cX11_stay 112 = .ok (.ifCond .eq 21, 3) := by decide +kernel
theorem dX11_stay_115 : decode cX11_stay 115 = .ok (.aload_n 0, 1) := by decide +kernel
theorem dX11_stay_116 : decode cX11_stay 116 = .ok (.getfield 31, 3) := by decide +kernel
theorem dX11_stay_119 : decode cX11_stay 119 = .ok (.iconst 2, 1) := by decide +kernel
theorem dX11_stay_120 : decode cX11_stay 120 = .ok (.dup2, 1) := by decide +kernel
theorem dX11_stay_121 : decode cX11_stay 121 = .ok (.laload, 1) := by decide +kernel
theorem dX11_stay_122 : decode cX11_stay 122 = .ok (.aload_n 0, 1) := by decide +kernel
theorem dX11_stay_123 : decode cX11_stay 123 = .ok (.aload_n 0, 1) := by decide +kernel
theorem dX11_stay_124 : decode cX11_stay 124 = .ok (.getfield 28, 3) := by decide +kernel
theorem dX11_stay_127 : decode cX11_stay 127 = .ok (.iload_n 2, 1) := by decide +kernel
theorem dX11_stay_128 : decode cX11_stay 128 = .ok (.invokevirtual 423, 3) := by decide +kernel
theorem dX11_stay_131 : decode cX11_stay 131 = .ok (.ladd, 1) := by decide +kernel
theorem dX11_stay_132 : decode cX11_stay 132 = .ok (.lastore, 1) := by decide +kernel
theorem dX11_stay_133 : decode cX11_stay 133 = .ok (.aload_n 0, 1) := by decide +kernel
theorem dX11_stay_134 : decode cX11_stay 134 = .ok (.getfield 31, 3) := by decide +kernel
theorem dX11_stay_137 : decode cX11_stay 137 = .ok (.iconst 1, 1) := by decide +kernel
theorem dX11_stay_138 : decode cX11_stay 138 = .ok (.dup2, 1) := by decide +kernel
theorem dX11_stay_139 : decode cX11_stay 139 = .ok (.laload, 1) := by decide +kernel
theorem dX11_stay_140 : decode cX11_stay 140 = .ok (.lconst 1, 1) := by decide +kernel
theorem dX11_stay_141 : decode cX11_stay 141 = .ok (.ladd, 1) := by decide +kernel
theorem dX11_stay_142 : decode cX11_stay 142 = .ok (.lastore, 1) := by decide +kernel
theorem dX11_stay_143 : decode cX11_stay 143 = .ok (.iinc 3 1, 3) := by decide +kernel
theorem dX11_stay_146 : decode cX11_stay 146 = .ok (.goto (-62), 3) := by decide +kernel
theorem dX11_stay_149 : decode cX11_stay 149 = .ok (.aload_n 0, 1) := by decide +kernel
theorem dX11_stay_150 : decode cX11_stay 150 = .ok (.invokevirtual 498, 3) := by decide +kernel
theorem dX11_stay_153 : decode cX11_stay 153 = .ok (.ireturn, 1) := by decide +kernel
theorem dX11_got_0 : decode cX11_got 0 = .ok (.aload_n 0, 1) := by decide +kernel
theorem dX11_got_1 : decode cX11_got 1 = .ok (.iconst 0, 1) := by decide +kernel
theorem dX11_got_2 : decode cX11_got 2 = .ok (.putfield 40, 3) := by decide +kernel
theorem dX11_got_5 : decode cX11_got 5 = .ok (.aload_n 0, 1) := by decide +kernel
theorem dX11_got_6 : decode cX11_got 6 = .ok (.invokevirtual 484, 3) := by decide +kernel
theorem dX11_got_9 : decode cX11_got 9 = .ok (.ifCond .eq 31, 3) := by decide +kernel
theorem dX11_got_12 : decode cX11_got 12 = .ok (.iload_n 1, 1) := by decide +kernel
theorem dX11_got_13 : decode cX11_got 13 = .ok (.iconst 0, 1) := by decide +kernel
theorem dX11_got_14 : decode cX11_got 14 = .ok (.iconst 4, 1) := by decide +kernel
theorem dX11_got_15 : decode cX11_got 15 = .ok (.invokestatic 118, 3) := by decide +kernel
theorem dX11_got_18 : decode cX11_got 18 = .ok (.ifCond .eq 22, 3) := by decide +kernel
theorem dX11_got_21 : decode cX11_got 21 = .ok (.aload_n 0, 1) := by decide +kernel
theorem dX11_got_22 : decode cX11_got 22 = .ok (.aload_n 0, 1) := by decide +kernel
theorem dX11_got_23 : decode cX11_got 23 = .ok (.getfield 31, 3) := by decide +kernel
theorem dX11_got_26 : decode cX11_got 26 = .ok (.iconst 2, 1) := by decide +kernel
theorem dX11_got_27 : decode cX11_got 27 = .ok (.iload_n 1, 1) := by decide +kernel
theorem dX11_got_28 : decode cX11_got 28 = .ok (.iadd, 1) := by decide +kernel
theorem dX11_got_29 : decode cX11_got 29 = .ok (.laload, 1) := by decide +kernel
theorem dX11_got_30 : decode cX11_got 30 = .ok (.ldc2_w 387, 3) := by decide +kernel
theorem dX11_got_33 : decode cX11_got 33 = .ok (.iload_n 2, 1) := by decide +kernel
theorem dX11_got_34 : decode cX11_got 34 = .ok (.invokevirtual 389, 3) := by decide +kernel
theorem dX11_got_37 : decode cX11_got 37 = .ok (.goto 9, 3) := by decide +kernel
theorem dX11_got_40 : decode cX11_got 40 = .ok (.aload_n 0, 1) := by decide +kernel
theorem dX11_got_41 : decode cX11_got 41 = .ok (.iconst 1, 1) := by decide +kernel
theorem dX11_got_42 : decode cX11_got 42 = .ok (.invokevirtual 46, 3) := by decide +kernel
theorem dX11_got_45 : decode cX11_got 45 = .ok (.i2l, 1) := by decide +kernel
theorem dX11_got_46 : decode cX11_got 46 = .ok (.lreturn, 1) := by decide +kernel
theorem dX11_gotInAll_0 : decode cX11_gotInAll 0 = .ok (.lconst 0, 1) := by decide +kernel
theorem dX11_gotInAll_1 : decode cX11_gotInAll 1 = .ok (.lstore_n 1, 1) := by decide +kernel
theorem dX11_gotInAll_2 : decode cX11_gotInAll 2 = .ok (.iconst 0, 1) := by decide +kernel
theorem dX11_gotInAll_3 : decode cX11_gotInAll 3 = .ok (.istore_n 3, 1) := by decide +kernel
theorem dX11_gotInAll_4 : decode cX11_gotInAll 4 = .ok (.iload_n 3, 1) := by decide +kernel
theorem dX11_gotInAll_5 : decode cX11_gotInAll 5 = .ok (.iconst 5, 1) := by decide +kernel
theorem dX11_gotInAll_6 : decode cX11_gotInAll 6 = .ok (.if_icmp .ge 20, 3) := by decide +kernel
theorem dX11_gotInAll_9 : decode cX11_gotInAll 9 = .ok (.lload_n 1, 1) := by decide +kernel
theorem dX11_gotInAll_10 : decode cX11_gotInAll 10 = .ok (.aload_n 0, 1) := by decide +kernel
theorem dX11_gotInAll_11 : decode cX11_gotInAll 11 = .ok (.getfield 31, 3) := by decide +kernel
theorem dX11_gotInAll_14 : decode cX11_gotInAll 14 = .ok (.iconst 2, 1) := by decide +kernel
theorem dX11_gotInAll_15 : decode cX11_gotInAll 15 = .ok (.iload_n 3, 1) := by decide +kernel
theorem dX11_gotInAll_16 : decode cX11_gotInAll 16 = .ok (.iadd, 1) := by decide +kernel
theorem dX11_gotInAll_17 : decode cX11_gotInAll 17 = .ok (.laload, 1) := by decide +kernel
theorem dX11_gotInAll_18 : decode cX11_gotInAll 18 = .ok (.ladd, 1) := by decide +kernel
theorem dX11_gotInAll_19 : decode cX11_gotInAll 19 = .ok (.lstore_n 1, 1) := by decide +kernel
theorem dX11_gotInAll_20 : decode cX11_gotInAll 20 = .ok (.iinc 3 1, 3) := by decide +kernel
theorem dX11_gotInAll_23 : decode cX11_gotInAll 23 = .ok (.goto (-19), 3) := by decide +kernel
theorem dX11_gotInAll_26 : decode cX11_gotInAll 26 = .ok (.lload_n 1, 1) := by decide +kernel
theorem dX11_gotInAll_27 : decode cX11_gotInAll 27 = .ok (.lreturn, 1) := by decide +kernel
theorem dX11_holds_0 : decode cX11_holds 0 = .ok (.aload_n 0, 1) := by decide +kernel
theorem dX11_holds_1 : decode cX11_holds 1 = .ok (.getfield 338, 3) := by decide +kernel
theorem dX11_holds_4 : decode cX11_holds 4 = .ok (.getfield 302, 3) := by decide +kernel
theorem dX11_holds_7 : decode cX11_holds 7 = .ok (.aload_n 0, 1) := by decide +kernel
theorem dX11_holds_8 : decode cX11_holds 8 = .ok (.getfield 28, 3) := by decide +kernel
theorem dX11_holds_11 : decode cX11_holds 11 = .ok (.iaload, 1) := by decide +kernel
theorem dX11_holds_12 : decode cX11_holds 12 = .ok (.iconst 2, 1) := by decide +kernel
theorem dX11_holds_13 : decode cX11_holds 13 = .ok (.if_icmp .ne 23, 3) := by decide +kernel
theorem dX11_holds_16 : decode cX11_holds 16 = .ok (.ldc2_w 387, 3) := by decide +kernel
theorem dX11_holds_19 : decode cX11_holds 19 = .ok (.aload_n 0, 1) := by decide +kernel
theorem dX11_holds_20 : decode cX11_holds 20 = .ok (.getfield 338, 3) := by decide +kernel
theorem dX11_holds_23 : decode cX11_holds 23 = .ok (.getfield 305, 3) := by decide +kernel
theorem dX11_holds_26 : decode cX11_holds 26 = .ok (.aload_n 0, 1) := by decide +kernel
theorem dX11_holds_27 : decode cX11_holds 27 = .ok (.getfield 28, 3) := by decide +kernel
theorem dX11_holds_30 : decode cX11_holds 30 = .ok (.iaload, 1) := by decide +kernel
theorem dX11_holds_31 : decode cX11_holds 31 = .ok (.i2l, 1) := by decide +kernel
theorem dX11_holds_32 : decode cX11_holds 32 = .ok (.lmul, 1) := by decide +kernel
theorem dX11_holds_33 : decode cX11_holds 33 = .ok (.goto 4, 3) := by decide +kernel
theorem dX11_holds_36 : decode cX11_holds 36 = .ok (.lconst 0, 1) := by decide +kernel
theorem dX11_holds_37 : decode cX11_holds 37 = .ok (.lreturn, 1) := by decide +kernel
theorem dX11_wetness_0 : decode cX11_wetness 0 = .ok (.aload_n 0, 1) := by decide +kernel
theorem dX11_wetness_1 : decode cX11_wetness 1 = .ok (.iconst 0, 1) := by decide +kernel
theorem dX11_wetness_2 : decode cX11_wetness 2 = .ok (.putfield 40, 3) := by decide +kernel
theorem dX11_wetness_5 : decode cX11_wetness 5 = .ok (.aload_n 0, 1) := by decide +kernel
theorem dX11_wetness_6 : decode cX11_wetness 6 = .ok (.invokevirtual 484, 3) := by decide +kernel
theorem dX11_wetness_9 : decode cX11_wetness 9 = .ok (.ifCond .ne 10, 3) := by decide +kernel
theorem dX11_wetness_12 : decode cX11_wetness 12 = .ok (.aload_n 0, 1) := by decide +kernel
theorem dX11_wetness_13 : decode cX11_wetness 13 = .ok (.iconst 1, 1) := by decide +kernel
theorem dX11_wetness_14 : decode cX11_wetness 14 = .ok (.invokevirtual 46, 3) := by decide +kernel
theorem dX11_wetness_17 : decode cX11_wetness 17 = .ok (.i2l, 1) := by decide +kernel
theorem dX11_wetness_18 : decode cX11_wetness 18 = .ok (.lreturn, 1) := by decide +kernel
theorem dX11_wetness_19 : decode cX11_wetness 19 = .ok (.aload_n 0, 1) := by decide +kernel
theorem dX11_wetness_20 : decode cX11_wetness 20 = .ok (.invokevirtual 501, 3) := by decide +kernel
theorem dX11_wetness_23 : decode cX11_wetness 23 = .ok (.aload_n 0, 1) := by decide +kernel
theorem dX11_wetness_24 : decode cX11_wetness 24 = .ok (.invokevirtual 504, 3) := by decide +kernel
theorem dX11_wetness_27 : decode cX11_wetness 27 = .ok (.lsub, 1) := by decide +kernel
theorem dX11_wetness_28 : decode cX11_wetness 28 = .ok (.lstore_n 2, 1) := by decide +kernel
theorem dX11_wetness_29 : decode cX11_wetness 29 = .ok (.aload_n 0, 1) := by decide +kernel
theorem dX11_wetness_30 : decode cX11_wetness 30 = .ok (.lload_n 2, 1) := by decide +kernel
theorem dX11_wetness_31 : decode cX11_wetness 31 = .ok (.lconst 0, 1) := by decide +kernel
theorem dX11_wetness_32 : decode cX11_wetness 32 = .ok (.lcmp, 1) := by decide +kernel
theorem dX11_wetness_33 : decode cX11_wetness 33 = .ok (.ifCond .ge 7, 3) := by decide +kernel
theorem dX11_wetness_36 : decode cX11_wetness 36 = .ok (.lconst 0, 1) := by decide +kernel
theorem dX11_wetness_37 : decode cX11_wetness 37 = .ok (.goto 4, 3) := by decide +kernel
theorem dX11_wetness_40 : decode cX11_wetness 40 = .ok (.lload_n 2, 1) := by decide +kernel
theorem dX11_wetness_41 : decode cX11_wetness 41 = .ok (.ldc2_w 387, 3) := by decide +kernel
theorem dX11_wetness_44 : decode cX11_wetness 44 = .ok (.iload_n 1, 1) := by decide +kernel
theorem dX11_wetness_45 : decode cX11_wetness 45 = .ok (.invokevirtual 389, 3) := by decide +kernel
theorem dX11_wetness_48 : decode cX11_wetness 48 = .ok (.lreturn, 1) := by decide +kernel
theorem dX11_soaked_0 : decode cX11_soaked 0 = .ok (.aload_n 0, 1) := by decide +kernel
theorem dX11_soaked_1 : decode cX11_soaked 1 = .ok (.iconst 0, 1) := by decide +kernel
theorem dX11_soaked_2 : decode cX11_soaked 2 = .ok (.putfield 40, 3) := by decide +kernel
theorem dX11_soaked_5 : decode cX11_soaked 5 = .ok (.aload_n 0, 1) := by decide +kernel
theorem dX11_soaked_6 : decode cX11_soaked 6 = .ok (.invokevirtual 484, 3) := by decide +kernel
theorem dX11_soaked_9 : decode cX11_soaked 9 = .ok (.ifCond .ne 9, 3) := by decide +kernel
theorem dX11_soaked_12 : decode cX11_soaked 12 = .ok (.aload_n 0, 1) := by decide +kernel
theorem dX11_soaked_13 : decode cX11_soaked 13 = .ok (.iconst 1, 1) := by decide +kernel
theorem dX11_soaked_14 : decode cX11_soaked 14 = .ok (.invokevirtual 46, 3) := by decide +kernel
theorem dX11_soaked_17 : decode cX11_soaked 17 = .ok (.ireturn, 1) := by decide +kernel
theorem dX11_soaked_18 : decode cX11_soaked 18 = .ok (.aload_n 0, 1) := by decide +kernel
theorem dX11_soaked_19 : decode cX11_soaked 19 = .ok (.aload_n 0, 1) := by decide +kernel
theorem dX11_soaked_20 : decode cX11_soaked 20 = .ok (.getfield 338, 3) := by decide +kernel
theorem dX11_soaked_23 : decode cX11_soaked 23 = .ok (.getfield 302, 3) := by decide +kernel
theorem dX11_soaked_26 : decode cX11_soaked 26 = .ok (.aload_n 0, 1) := by decide +kernel
theorem dX11_soaked_27 : decode cX11_soaked 27 = .ok (.getfield 28, 3) := by decide +kernel
theorem dX11_soaked_30 : decode cX11_soaked 30 = .ok (.iaload, 1) := by decide +kernel
theorem dX11_soaked_31 : decode cX11_soaked 31 = .ok (.iconst 2, 1) := by decide +kernel
theorem dX11_soaked_32 : decode cX11_soaked 32 = .ok (.if_icmp .eq 8, 3) := by decide +kernel
theorem dX11_soaked_35 : decode cX11_soaked 35 = .ok (.bipush (-2), 2) := by decide +kernel
theorem dX11_soaked_37 : decode cX11_soaked 37 = .ok (.goto 20, 3) := by decide +kernel
theorem dX11_soaked_40 : decode cX11_soaked 40 = .ok (.aload_n 0, 1) := by decide +kernel
theorem dX11_soaked_41 : decode cX11_soaked 41 = .ok (.invokevirtual 501, 3) := by decide +kernel
theorem dX11_soaked_44 : decode cX11_soaked 44 = .ok (.aload_n 0, 1) := by decide +kernel
theorem dX11_soaked_45 : decode cX11_soaked 45 = .ok (.invokevirtual 504, 3) := by decide +kernel
theorem dX11_soaked_48 : decode cX11_soaked 48 = .ok (.lcmp, 1) := by decide +kernel
theorem dX11_soaked_49 : decode cX11_soaked 49 = .ok (.ifCond .le 7, 3) := by decide +kernel
theorem dX11_soaked_52 : decode cX11_soaked 52 = .ok (.iconst 1, 1) := by decide +kernel
theorem dX11_soaked_53 : decode cX11_soaked 53 = .ok (.goto 4, 3) := by decide +kernel
theorem dX11_soaked_56 : decode cX11_soaked 56 = .ok (.iconst 0, 1) := by decide +kernel
theorem dX11_soaked_57 : decode cX11_soaked 57 = .ok (.invokevirtual 50, 3) := by decide +kernel
theorem dX11_soaked_60 : decode cX11_soaked 60 = .ok (.ireturn, 1) := by decide +kernel
theorem dX11_undo_0 : decode cX11_undo 0 = .ok (.aload_n 0, 1) := by decide +kernel
theorem dX11_undo_1 : decode cX11_undo 1 = .ok (.iconst 0, 1) := by decide +kernel
theorem dX11_undo_2 : decode cX11_undo 2 = .ok (.putfield 40, 3) := by decide +kernel
theorem dX11_undo_5 : decode cX11_undo 5 = .ok (.aload_n 0, 1) := by decide +kernel
theorem dX11_undo_6 : decode cX11_undo 6 = .ok (.invokevirtual 484, 3) := by decide +kernel
theorem dX11_undo_9 : decode cX11_undo 9 = .ok (.ifCond .eq 10, 3) := by decide +kernel
theorem dX11_undo_12 : decode cX11_undo 12 = .ok (.aload_n 0, 1) := by decide +kernel
theorem dX11_undo_13 : decode cX11_undo 13 = .ok (.getfield 340, 3) := by decide +kernel
theorem dX11_undo_16 : decode cX11_undo 16 = .ok (.ifCond .ne 10, 3) := by decide +kernel
theorem dX11_undo_19 : decode cX11_undo 19 = .ok (.aload_n 0, 1) := by decide +kernel
theorem dX11_undo_20 : decode cX11_undo 20 = .ok (.bipush 6, 2) := by decide +kernel
theorem dX11_undo_22 : decode cX11_undo 22 = .ok (.invokevirtual 493, 3) := by decide +kernel
theorem dX11_undo_25 : decode cX11_undo 25 = .ok (.ireturn, 1) := by decide +kernel
theorem dX11_undo_26 : decode cX11_undo 26 = .ok (.aload_n 0, 1) := by decide +kernel
theorem dX11_undo_27 : decode cX11_undo 27 = .ok (.dup, 1) := by decide +kernel
theorem dX11_undo_28 : decode cX11_undo 28 = .ok (.getfield 340, 3) := by decide +kernel
theorem dX11_undo_31 : decode cX11_undo 31 = .ok (.iconst 1, 1) := by decide +kernel
theorem dX11_undo_32 : decode cX11_undo 32 = .ok (.isub, 1) := by decide +kernel
theorem dX11_undo_33 : decode cX11_undo 33 = .ok (.putfield 340, 3) := by decide +kernel
theorem dX11_undo_36 : decode cX11_undo 36 = .ok (.iconst 0, 1) := by decide +kernel
theorem dX11_undo_37 : decode cX11_undo 37 = .ok (.istore_n 1, 1) := by decide +kernel
theorem dX11_undo_38 : decode cX11_undo 38 = .ok (.iload_n 1, 1) := by decide +kernel
theorem dX11_undo_39 : decode cX11_undo 39 = .ok (.bipush 7, 2) := by decide +kernel
theorem dX11_undo_41 : decode cX11_undo 41 = .ok (.if_icmp .ge 29, 3) := by decide +kernel
theorem dX11_undo_44 : decode cX11_undo 44 = .ok (.aload_n 0, 1) := by decide +kernel
theorem dX11_undo_45 : decode cX11_undo 45 = .ok (.getfield 31, 3) := by decide +kernel
theorem dX11_undo_48 : decode cX11_undo 48 = .ok (.iload_n 1, 1) := by decide +kernel
theorem dX11_undo_49 : decode cX11_undo 49 = .ok (.aload_n 0, 1) := by decide +kernel
theorem dX11_undo_50 : decode cX11_undo 50 = .ok (.getfield 34, 3) := by decide +kernel
theorem dX11_undo_53 : decode cX11_undo 53 = .ok (.bipush 7, 2) := by decide +kernel
theorem dX11_undo_55 : decode cX11_undo 55 = .ok (.aload_n 0, 1) := by decide +kernel
theorem dX11_undo_56 : decode cX11_undo 56 = .ok (.getfield 340, 3) := by decide +kernel
theorem dX11_undo_59 : decode cX11_undo 59 = .ok (.imul, 1) := by decide +kernel
theorem dX11_undo_60 : decode cX11_undo 60 = .ok (.iload_n 1, 1) := by decide +kernel
theorem dX11_undo_61 : decode cX11_undo 61 = .ok (.iadd, 1) := by decide +kernel
theorem dX11_undo_62 : decode cX11_undo 62 = .ok (.laload, 1) := by decide +kernel
theorem dX11_undo_63 : decode cX11_undo 63 = .ok (.lastore, 1) := by decide +kernel
theorem dX11_undo_64 : decode cX11_undo 64 = .ok (.iinc 1 1, 3) := by decide +kernel
theorem dX11_undo_67 : decode cX11_undo 67 = .ok (.goto (-29), 3) := by decide +kernel
theorem dX11_undo_70 : decode cX11_undo 70 = .ok (.aload_n 0, 1) := by decide +kernel
theorem dX11_undo_71 : decode cX11_undo 71 = .ok (.invokevirtual 498, 3) := by decide +kernel
theorem dX11_undo_74 : decode cX11_undo 74 = .ok (.ireturn, 1) := by decide +kernel
theorem dX11_mark_0 : decode cX11_mark 0 = .ok (.aload_n 0, 1) := by decide +kernel
theorem dX11_mark_1 : decode cX11_mark 1 = .ok (.iconst 0, 1) := by decide +kernel
theorem dX11_mark_2 : decode cX11_mark 2 = .ok (.putfield 40, 3) := by decide +kernel
theorem dX11_mark_5 : decode cX11_mark 5 = .ok (.aload_n 0, 1) := by decide +kernel
theorem dX11_mark_6 : decode cX11_mark 6 = .ok (.invokevirtual 484, 3) := by decide +kernel
theorem dX11_mark_9 : decode cX11_mark 9 = .ok (.ifCond .ne 9, 3) := by decide +kernel
theorem dX11_mark_12 : decode cX11_mark 12 = .ok (.aload_n 0, 1) := by decide +kernel
theorem dX11_mark_13 : decode cX11_mark 13 = .ok (.iconst 1, 1) := by decide +kernel
theorem dX11_mark_14 : decode cX11_mark 14 = .ok (.invokevirtual 46, 3) := by decide +kernel
theorem dX11_mark_17 : decode cX11_mark 17 = .ok (.ireturn, 1) := by decide +kernel
theorem dX11_mark_18 : decode cX11_mark 18 = .ok (.aload_n 0, 1) := by decide +kernel
theorem dX11_mark_19 : decode cX11_mark 19 = .ok (.getfield 343, 3) := by decide +kernel
theorem dX11_mark_22 : decode cX11_mark 22 = .ok (.iconst 3, 1) := by decide +kernel
theorem dX11_mark_23 : decode cX11_mark 23 = .ok (.if_icmp .ne 9, 3) := by decide +kernel
theorem dX11_mark_26 : decode cX11_mark 26 = .ok (.aload_n 0, 1) := by decide +kernel
theorem dX11_mark_27 : decode cX11_mark 27 = .ok (.iconst 3, 1) := by decide +kernel
theorem dX11_mark_28 : decode cX11_mark 28 = .ok (.invokevirtual 46, 3) := by decide +kernel
theorem dX11_mark_31 : decode cX11_mark 31 = .ok (.ireturn, 1) := by decide +kernel
theorem dX11_mark_32 : decode cX11_mark 32 = .ok (.iconst 0, 1) := by decide +kernel
theorem dX11_mark_33 : decode cX11_mark 33 = .ok (.istore_n 1, 1) := by decide +kernel
theorem dX11_mark_34 : decode cX11_mark 34 = .ok (.iload_n 1, 1) := by decide +kernel
theorem dX11_mark_35 : decode cX11_mark 35 = .ok (.bipush 7, 2) := by decide +kernel
theorem dX11_mark_37 : decode cX11_mark 37 = .ok (.if_icmp .ge 29, 3) := by decide +kernel
theorem dX11_mark_40 : decode cX11_mark 40 = .ok (.aload_n 0, 1) := by decide +kernel
theorem dX11_mark_41 : decode cX11_mark 41 = .ok (.getfield 37, 3) := by decide +kernel
theorem dX11_mark_44 : decode cX11_mark 44 = .ok (.bipush 7, 2) := by decide +kernel
theorem dX11_mark_46 : decode cX11_mark 46 = .ok (.aload_n 0, 1) := by decide +kernel
theorem dX11_mark_47 : decode cX11_mark 47 = .ok (.getfield 343, 3) := by decide +kernel
theorem dX11_mark_50 : decode cX11_mark 50 = .ok (.imul, 1) := by decide +kernel
theorem dX11_mark_51 : decode cX11_mark 51 = .ok (.iload_n 1, 1) := by decide +kernel
theorem dX11_mark_52 : decode cX11_mark 52 = .ok (.iadd, 1) := by decide +kernel
theorem dX11_mark_53 : decode cX11_mark 53 = .ok (.aload_n 0, 1) := by decide +kernel
theorem dX11_mark_54 : decode cX11_mark 54 = .ok (.getfield 31, 3) := by decide +kernel
theorem dX11_mark_57 : decode cX11_mark 57 = .ok (.iload_n 1, 1) := by decide +kernel
theorem dX11_mark_58 : decode cX11_mark 58 = .ok (.laload, 1) := by decide +kernel
theorem dX11_mark_59 : decode cX11_mark 59 = .ok (.lastore, 1) := by decide +kernel
theorem dX11_mark_60 : decode cX11_mark 60 = .ok (.iinc 1 1, 3) := by decide +kernel
theorem dX11_mark_63 : decode cX11_mark 63 = .ok (.goto (-29), 3) := by decide +kernel
theorem dX11_mark_66 : decode cX11_mark 66 = .ok (.aload_n 0, 1) := by decide +kernel
theorem dX11_mark_67 : decode cX11_mark 67 = .ok (.dup, 1) := by decide +kernel
theorem dX11_mark_68 : decode cX11_mark 68 = .ok (.getfield 343, 3) := by decide +kernel
theorem dX11_mark_71 : decode cX11_mark 71 = .ok (.iconst 1, 1) := by decide +kernel
theorem dX11_mark_72 : decode cX11_mark 72 = .ok (.iadd, 1) := by decide +kernel
theorem dX11_mark_73 : decode cX11_mark 73 = .ok (.putfield 343, 3) := by decide +kernel
theorem dX11_mark_76 : decode cX11_mark 76 = .ok (.aload_n 0, 1) := by decide +kernel
theorem dX11_mark_77 : decode cX11_mark 77 = .ok (.aload_n 0, 1) := by decide +kernel
theorem dX11_mark_78 : decode cX11_mark 78 = .ok (.getfield 343, 3) := by decide +kernel
theorem dX11_mark_81 : decode cX11_mark 81 = .ok (.iconst 1, 1) := by decide +kernel
theorem dX11_mark_82 : decode cX11_mark 82 = .ok (.isub, 1) := by decide +kernel
theorem dX11_mark_83 : decode cX11_mark 83 = .ok (.invokevirtual 50, 3) := by decide +kernel
theorem dX11_mark_86 : decode cX11_mark 86 = .ok (.ireturn, 1) := by decide +kernel
theorem dX11_back_0 : decode cX11_back 0 = .ok (.aload_n 0, 1) := by decide +kernel
theorem dX11_back_1 : decode cX11_back 1 = .ok (.iconst 0, 1) := by decide +kernel
theorem dX11_back_2 : decode cX11_back 2 = .ok (.putfield 40, 3) := by decide +kernel
theorem dX11_back_5 : decode cX11_back 5 = .ok (.aload_n 0, 1) := by decide +kernel
theorem dX11_back_6 : decode cX11_back 6 = .ok (.invokevirtual 484, 3) := by decide +kernel
theorem dX11_back_9 : decode cX11_back 9 = .ok (.ifCond .eq 15, 3) := by decide +kernel
theorem dX11_back_12 : decode cX11_back 12 = .ok (.iload_n 1, 1) := by decide +kernel
theorem dX11_back_13 : decode cX11_back 13 = .ok (.ifCond .lt 11, 3) := by decide +kernel
theorem dX11_back_16 : decode cX11_back 16 = .ok (.iload_n 1, 1) := by decide +kernel
theorem dX11_back_17 : decode cX11_back 17 = .ok (.aload_n 0, 1) := by decide +kernel
theorem dX11_back_18 : decode cX11_back 18 = .ok (.getfield 343, 3) := by decide +kernel
theorem dX11_back_21 : decode cX11_back 21 = .ok (.if_icmp .lt 9, 3) := by decide +kernel
theorem dX11_back_24 : decode cX11_back 24 = .ok (.aload_n 0, 1) := by decide +kernel
theorem dX11_back_25 : decode cX11_back 25 = .ok (.iconst 1, 1) := by decide +kernel
theorem dX11_back_26 : decode cX11_back 26 = .ok (.invokevirtual 493, 3) := by decide +kernel
theorem dX11_back_29 : decode cX11_back 29 = .ok (.ireturn, 1) := by decide +kernel
theorem dX11_back_30 : decode cX11_back 30 = .ok (.iconst 0, 1) := by decide +kernel
theorem dX11_back_31 : decode cX11_back 31 = .ok (.istore_n 2, 1) := by decide +kernel
theorem dX11_back_32 : decode cX11_back 32 = .ok (.iload_n 2, 1) := by decide +kernel
theorem dX11_back_33 : decode cX11_back 33 = .ok (.bipush 7, 2) := by decide +kernel
theorem dX11_back_35 : decode cX11_back 35 = .ok (.if_icmp .ge 26, 3) := by decide +kernel
theorem dX11_back_38 : decode cX11_back 38 = .ok (.aload_n 0, 1) := by decide +kernel
theorem dX11_back_39 : decode cX11_back 39 = .ok (.getfield 31, 3) := by decide +kernel
theorem dX11_back_42 : decode cX11_back 42 = .ok (.iload_n 2, 1) := by decide +kernel
theorem dX11_back_43 : decode cX11_back 43 = .ok (.aload_n 0, 1) := by decide +kernel
theorem dX11_back_44 : decode cX11_back 44 = .ok (.getfield 37, 3) := by decide +kernel
theorem dX11_back_47 : decode cX11_back 47 = .ok (.bipush 7, 2) := by decide +kernel
theorem dX11_back_49 : decode cX11_back 49 = .ok (.iload_n 1, 1) := by decide +kernel
theorem dX11_back_50 : decode cX11_back 50 = .ok (.imul, 1) := by decide +kernel
theorem dX11_back_51 : decode cX11_back 51 = .ok (.iload_n 2, 1) := by decide +kernel
theorem dX11_back_52 : decode cX11_back 52 = .ok (.iadd, 1) := by decide +kernel
theorem dX11_back_53 : decode cX11_back 53 = .ok (.laload, 1) := by decide +kernel
theorem dX11_back_54 : decode cX11_back 54 = .ok (.lastore, 1) := by decide +kernel
theorem dX11_back_55 : decode cX11_back 55 = .ok (.iinc 2 1, 3) := by decide +kernel
theorem dX11_back_58 : decode cX11_back 58 = .ok (.goto (-26), 3) := by decide +kernel
theorem dX11_back_61 : decode cX11_back 61 = .ok (.aload_n 0, 1) := by decide +kernel
theorem dX11_back_62 : decode cX11_back 62 = .ok (.iconst 0, 1) := by decide +kernel
theorem dX11_back_63 : decode cX11_back 63 = .ok (.putfield 340, 3) := by decide +kernel
theorem dX11_back_66 : decode cX11_back 66 = .ok (.aload_n 0, 1) := by decide +kernel
theorem dX11_back_67 : decode cX11_back 67 = .ok (.invokevirtual 498, 3) := by decide +kernel
theorem dX11_back_70 : decode cX11_back 70 = .ok (.ireturn, 1) := by decide +kernel
theorem dX11_walker_0 : decode cX11_walker 0 = .ok (.aload_n 0, 1) := by decide +kernel
theorem dX11_walker_1 : decode cX11_walker 1 = .ok (.iconst 0, 1) := by decide +kernel
theorem dX11_walker_2 : decode cX11_walker 2 = .ok (.putfield 40, 3) := by decide +kernel
theorem dX11_walker_5 : decode cX11_walker 5 = .ok (.aload_n 0, 1) := by decide +kernel
theorem dX11_walker_6 : decode cX11_walker 6 = .ok (.iload_n 1, 1) := by decide +kernel
theorem dX11_walker_7 : decode cX11_walker 7 = .ok (.invokevirtual 346, 3) := by decide +kernel
theorem dX11_walker_10 : decode cX11_walker 10 = .ok (.ifCond .eq 13, 3) := by decide +kernel
theorem dX11_walker_13 : decode cX11_walker 13 = .ok (.iload_n 2, 1) := by decide +kernel
theorem dX11_walker_14 : decode cX11_walker 14 = .ok (.iconst 0, 1) := by decide +kernel
theorem dX11_walker_15 : decode cX11_walker 15 = .ok (.bipush 6, 2) := by decide +kernel
theorem dX11_walker_17 : decode cX11_walker 17 = .ok (.invokestatic 118, 3) := by decide +kernel
theorem dX11_walker_20 : decode cX11_walker 20 = .ok (.ifCond .ne 9, 3) := by decide +kernel
theorem dX11_walker_23 : decode cX11_walker 23 = .ok (.aload_n 0, 1) := by decide +kernel
theorem dX11_walker_24 : decode cX11_walker 24 = .ok (.iconst 1, 1) := by decide +kernel
theorem dX11_walker_25 : decode cX11_walker 25 = .ok (.invokevirtual 46, 3) := by decide +kernel
theorem dX11_walker_28 : decode cX11_walker 28 = .ok (.ireturn, 1) := by decide +kernel
theorem dX11_walker_29 : decode cX11_walker 29 = .ok (.iload_n 2, 1) := by decide +kernel
theorem dX11_walker_30 : decode cX11_walker 30 = .ok (.tableswitch 122 0 5 #[38, 52, 66, 80, 94, 108], 38) := by decide +kernel
theorem dX11_walker_68 : decode cX11_walker 68 = .ok (.aload_n 0, 1) := by decide +kernel
theorem dX11_walker_69 : decode cX11_walker 69 = .ok (.aload_n 0, 1) := by decide +kernel
theorem dX11_walker_70 : decode cX11_walker 70 = .ok (.getfield 338, 3) := by decide +kernel
theorem dX11_walker_73 : decode cX11_walker 73 = .ok (.getfield 302, 3) := by decide +kernel
theorem dX11_walker_76 : decode cX11_walker 76 = .ok (.iload_n 1, 1) := by decide +kernel
theorem dX11_walker_77 : decode cX11_walker 77 = .ok (.iaload, 1) := by decide +kernel
theorem dX11_walker_78 : decode cX11_walker 78 = .ok (.invokevirtual 50, 3) := by decide +kernel
theorem dX11_walker_81 : decode cX11_walker 81 = .ok (.ireturn, 1) := by decide +kernel
theorem dX11_walker_82 : decode cX11_walker 82 = .ok (.aload_n 0, 1) := by decide +kernel
theorem dX11_walker_83 : decode cX11_walker 83 = .ok (.aload_n 0, 1) := by decide +kernel
theorem dX11_walker_84 : decode cX11_walker 84 = .ok (.getfield 338, 3) := by decide +kernel
theorem dX11_walker_87 : decode cX11_walker 87 = .ok (.getfield 305, 3) := by decide +kernel
theorem dX11_walker_90 : decode cX11_walker 90 = .ok (.iload_n 1, 1) := by decide +kernel
theorem dX11_walker_91 : decode cX11_walker 91 = .ok (.iaload, 1) := by decide +kernel
theorem dX11_walker_92 : decode cX11_walker 92 = .ok (.invokevirtual 50, 3) := by decide +kernel
theorem dX11_walker_95 : decode cX11_walker 95 = .ok (.ireturn, 1) := by decide +kernel
theorem dX11_walker_96 : decode cX11_walker 96 = .ok (.aload_n 0, 1) := by decide +kernel
theorem dX11_walker_97 : decode cX11_walker 97 = .ok (.aload_n 0, 1) := by decide +kernel
theorem dX11_walker_98 : decode cX11_walker 98 = .ok (.getfield 338, 3) := by decide +kernel
theorem dX11_walker_101 : decode cX11_walker 101 = .ok (.getfield 308, 3) := by decide +kernel
theorem dX11_walker_104 : decode cX11_walker 104 = .ok (.iload_n 1, 1) := by decide +kernel
theorem dX11_walker_105 : decode cX11_walker 105 = .ok (.iaload, 1) := by decide +kernel
theorem dX11_walker_106 : decode cX11_walker 106 = .ok (.invokevirtual 50, 3) := by decide +kernel
theorem dX11_walker_109 : decode cX11_walker 109 = .ok (.ireturn, 1) := by decide +kernel
theorem dX11_walker_110 : decode cX11_walker 110 = .ok (.aload_n 0, 1) := by decide +kernel
theorem dX11_walker_111 : decode cX11_walker 111 = .ok (.aload_n 0, 1) := by decide +kernel
theorem dX11_walker_112 : decode cX11_walker 112 = .ok (.getfield 338, 3) := by decide +kernel
theorem dX11_walker_115 : decode cX11_walker 115 = .ok (.getfield 311, 3) := by decide +kernel
theorem dX11_walker_118 : decode cX11_walker 118 = .ok (.iload_n 1, 1) := by decide +kernel
theorem dX11_walker_119 : decode cX11_walker 119 = .ok (.iaload, 1) := by decide +kernel
theorem dX11_walker_120 : decode cX11_walker 120 = .ok (.invokevirtual 50, 3) := by decide +kernel
theorem dX11_walker_123 : decode cX11_walker 123 = .ok (.ireturn, 1) := by decide +kernel
theorem dX11_walker_124 : decode cX11_walker 124 = .ok (.aload_n 0, 1) := by decide +kernel
theorem dX11_walker_125 : decode cX11_walker 125 = .ok (.aload_n 0, 1) := by decide +kernel
theorem dX11_walker_126 : decode cX11_walker 126 = .ok (.getfield 338, 3) := by decide +kernel
theorem dX11_walker_129 : decode cX11_walker 129 = .ok (.getfield 314, 3) := by decide +kernel
theorem dX11_walker_132 : decode cX11_walker 132 = .ok (.iload_n 1, 1) := by decide +kernel
theorem dX11_walker_133 : decode cX11_walker 133 = .ok (.iaload, 1) := by decide +kernel
theorem dX11_walker_134 : decode cX11_walker 134 = .ok (.invokevirtual 50, 3) := by decide +kernel
theorem dX11_walker_137 : decode cX11_walker 137 = .ok (.ireturn, 1) := by decide +kernel
theorem dX11_walker_138 : decode cX11_walker 138 = .ok (.aload_n 0, 1) := by decide +kernel
theorem dX11_walker_139 : decode cX11_walker 139 = .ok (.aload_n 0, 1) := by decide +kernel
theorem dX11_walker_140 : decode cX11_walker 140 = .ok (.getfield 338, 3) := by decide +kernel
theorem dX11_walker_143 : decode cX11_walker 143 = .ok (.getfield 317, 3) := by decide +kernel
theorem dX11_walker_146 : decode cX11_walker 146 = .ok (.iload_n 1, 1) := by decide +kernel
theorem dX11_walker_147 : decode cX11_walker 147 = .ok (.iaload, 1) := by decide +kernel
theorem dX11_walker_148 : decode cX11_walker 148 = .ok (.invokevirtual 50, 3) := by decide +kernel
theorem dX11_walker_151 : decode cX11_walker 151 = .ok (.ireturn, 1) := by decide +kernel
theorem dX11_walker_152 : decode cX11_walker 152 = .ok (.aload_n 0, 1) := by decide +kernel
theorem dX11_walker_153 : decode cX11_walker 153 = .ok (.aload_n 0, 1) := by decide +kernel
theorem dX11_walker_154 : decode cX11_walker 154 = .ok (.getfield 338, 3) := by decide +kernel
theorem dX11_walker_157 : decode cX11_walker 157 = .ok (.getfield 320, 3) := by decide +kernel
theorem dX11_walker_160 : decode cX11_walker 160 = .ok (.iload_n 1, 1) := by decide +kernel
theorem dX11_walker_161 : decode cX11_walker 161 = .ok (.iaload, 1) := by decide +kernel
theorem dX11_walker_162 : decode cX11_walker 162 = .ok (.invokevirtual 50, 3) := by decide +kernel
theorem dX11_walker_165 : decode cX11_walker 165 = .ok (.ireturn, 1) := by decide +kernel
theorem dX11_road_0 : decode cX11_road 0 = .ok (.aload_n 0, 1) := by decide +kernel
theorem dX11_road_1 : decode cX11_road 1 = .ok (.iconst 0, 1) := by decide +kernel
theorem dX11_road_2 : decode cX11_road 2 = .ok (.putfield 40, 3) := by decide +kernel
theorem dX11_road_5 : decode cX11_road 5 = .ok (.aload_n 0, 1) := by decide +kernel
theorem dX11_road_6 : decode cX11_road 6 = .ok (.iload_n 1, 1) := by decide +kernel
theorem dX11_road_7 : decode cX11_road 7 = .ok (.invokevirtual 349, 3) := by decide +kernel
theorem dX11_road_10 : decode cX11_road 10 = .ok (.ifCond .eq 12, 3) := by decide +kernel
theorem dX11_road_13 : decode cX11_road 13 = .ok (.iload_n 2, 1) := by decide +kernel
theorem dX11_road_14 : decode cX11_road 14 = .ok (.iconst 0, 1) := by decide +kernel
theorem dX11_road_15 : decode cX11_road 15 = .ok (.iconst 4, 1) := by decide +kernel
theorem dX11_road_16 : decode cX11_road 16 = .ok (.invokestatic 118, 3) := by decide +kernel
theorem dX11_road_19 : decode cX11_road 19 = .ok (.ifCond .ne 9, 3) := by decide +kernel
theorem dX11_road_22 : decode cX11_road 22 = .ok (.aload_n 0, 1) := by decide +kernel
theorem dX11_road_23 : decode cX11_road 23 = .ok (.iconst 1, 1) := by decide +kernel
theorem dX11_road_24 : decode cX11_road 24 = .ok (.invokevirtual 46, 3) := by decide +kernel
theorem dX11_road_27 : decode cX11_road 27 = .ok (.ireturn, 1) := by decide +kernel
theorem dX11_road_28 : decode cX11_road 28 = .ok (.iload_n 2, 1) := by decide +kernel
theorem dX11_road_29 : decode cX11_road 29 = .ok (.tableswitch 87 0 3 #[31, 45, 59, 73], 31) := by decide +kernel
theorem dX11_road_60 : decode cX11_road 60 = .ok (.aload_n 0, 1) := by decide +kernel
theorem dX11_road_61 : decode cX11_road 61 = .ok (.aload_n 0, 1) := by decide +kernel
theorem dX11_road_62 : decode cX11_road 62 = .ok (.getfield 338, 3) := by decide +kernel
theorem dX11_road_65 : decode cX11_road 65 = .ok (.getfield 270, 3) := by decide +kernel
theorem dX11_road_68 : decode cX11_road 68 = .ok (.iload_n 1, 1) := by decide +kernel
theorem dX11_road_69 : decode cX11_road 69 = .ok (.iaload, 1) := by decide +kernel
theorem dX11_road_70 : decode cX11_road 70 = .ok (.invokevirtual 50, 3) := by decide +kernel
theorem dX11_road_73 : decode cX11_road 73 = .ok (.ireturn, 1) := by decide +kernel
theorem dX11_road_74 : decode cX11_road 74 = .ok (.aload_n 0, 1) := by decide +kernel
theorem dX11_road_75 : decode cX11_road 75 = .ok (.aload_n 0, 1) := by decide +kernel
theorem dX11_road_76 : decode cX11_road 76 = .ok (.getfield 338, 3) := by decide +kernel
theorem dX11_road_79 : decode cX11_road 79 = .ok (.getfield 273, 3) := by decide +kernel
theorem dX11_road_82 : decode cX11_road 82 = .ok (.iload_n 1, 1) := by decide +kernel
theorem dX11_road_83 : decode cX11_road 83 = .ok (.iaload, 1) := by decide +kernel
theorem dX11_road_84 : decode cX11_road 84 = .ok (.invokevirtual 50, 3) := by decide +kernel
theorem dX11_road_87 : decode cX11_road 87 = .ok (.ireturn, 1) := by decide +kernel
theorem dX11_road_88 : decode cX11_road 88 = .ok (.aload_n 0, 1) := by decide +kernel
theorem dX11_road_89 : decode cX11_road 89 = .ok (.aload_n 0, 1) := by decide +kernel
theorem dX11_road_90 : decode cX11_road 90 = .ok (.getfield 338, 3) := by decide +kernel
theorem dX11_road_93 : decode cX11_road 93 = .ok (.getfield 276, 3) := by decide +kernel
theorem dX11_road_96 : decode cX11_road 96 = .ok (.iload_n 1, 1) := by decide +kernel
theorem dX11_road_97 : decode cX11_road 97 = .ok (.iaload, 1) := by decide +kernel
theorem dX11_road_98 : decode cX11_road 98 = .ok (.invokevirtual 50, 3) := by decide +kernel
theorem dX11_road_101 : decode cX11_road 101 = .ok (.ireturn, 1) := by decide +kernel
theorem dX11_road_102 : decode cX11_road 102 = .ok (.aload_n 0, 1) := by decide +kernel
theorem dX11_road_103 : decode cX11_road 103 = .ok (.aload_n 0, 1) := by decide +kernel
theorem dX11_road_104 : decode cX11_road 104 = .ok (.getfield 338, 3) := by decide +kernel
theorem dX11_road_107 : decode cX11_road 107 = .ok (.getfield 279, 3) := by decide +kernel
theorem dX11_road_110 : decode cX11_road 110 = .ok (.iload_n 1, 1) := by decide +kernel
theorem dX11_road_111 : decode cX11_road 111 = .ok (.iaload, 1) := by decide +kernel
theorem dX11_road_112 : decode cX11_road 112 = .ok (.invokevirtual 50, 3) := by decide +kernel
theorem dX11_road_115 : decode cX11_road 115 = .ok (.ireturn, 1) := by decide +kernel
theorem dX11_road_116 : decode cX11_road 116 = .ok (.aload_n 0, 1) := by decide +kernel
theorem dX11_road_117 : decode cX11_road 117 = .ok (.aload_n 0, 1) := by decide +kernel
theorem dX11_road_118 : decode cX11_road 118 = .ok (.getfield 338, 3) := by decide +kernel
theorem dX11_road_121 : decode cX11_road 121 = .ok (.getfield 282, 3) := by decide +kernel
theorem dX11_road_124 : decode cX11_road 124 = .ok (.iload_n 1, 1) := by decide +kernel
theorem dX11_road_125 : decode cX11_road 125 = .ok (.iaload, 1) := by decide +kernel
theorem dX11_road_126 : decode cX11_road 126 = .ok (.invokevirtual 50, 3) := by decide +kernel
theorem dX11_road_129 : decode cX11_road 129 = .ok (.ireturn, 1) := by decide +kernel
theorem dX11_led_0 : decode cX11_led 0 = .ok (.aload_n 0, 1) := by decide +kernel
theorem dX11_led_1 : decode cX11_led 1 = .ok (.iconst 0, 1) := by decide +kernel
theorem dX11_led_2 : decode cX11_led 2 = .ok (.putfield 40, 3) := by decide +kernel
theorem dX11_led_5 : decode cX11_led 5 = .ok (.iconst 0, 1) := by decide +kernel
theorem dX11_led_6 : decode cX11_led 6 = .ok (.istore_n 2, 1) := by decide +kernel
theorem dX11_led_7 : decode cX11_led 7 = .ok (.iconst 0, 1) := by decide +kernel
theorem dX11_led_8 : decode cX11_led 8 = .ok (.istore_n 3, 1) := by decide +kernel
theorem dX11_led_9 : decode cX11_led 9 = .ok (.aload_n 0, 1) := by decide +kernel
theorem dX11_led_10 : decode cX11_led 10 = .ok (.invokevirtual 484, 3) := by decide +kernel
theorem dX11_led_13 : decode cX11_led 13 = .ok (.ifCond .eq 73, 3) := by decide +kernel
theorem dX11_led_16 : decode cX11_led 16 = .ok (.iload_n 3, 1) := by decide +kernel
theorem dX11_led_17 : decode cX11_led 17 = .ok (.aload_n 0, 1) := by decide +kernel
theorem dX11_led_18 : decode cX11_led 18 = .ok (.getfield 338, 3) := by decide +kernel
theorem dX11_led_21 : decode cX11_led 21 = .ok (.getfield 264, 3) := by decide +kernel
theorem dX11_led_24 : decode cX11_led 24 = .ok (.if_icmp .ge 62, 3) := by decide +kernel
theorem dX11_led_27 : decode cX11_led 27 = .ok (.aload_n 0, 1) := by decide +kernel
theorem dX11_led_28 : decode cX11_led 28 = .ok (.getfield 338, 3) := by decide +kernel
theorem dX11_led_31 : decode cX11_led 31 = .ok (.getfield 270, 3) := by decide +kernel
theorem dX11_led_34 : decode cX11_led 34 = .ok (.iload_n 3, 1) := by decide +kernel
theorem dX11_led_35 : decode cX11_led 35 = .ok (.iaload, 1) := by decide +kernel
theorem dX11_led_36 : decode cX11_led 36 = .ok (.i2l, 1) := by decide +kernel
theorem dX11_led_37 : decode cX11_led 37 = .ok (.aload_n 0, 1) := by decide +kernel
theorem dX11_led_38 : decode cX11_led 38 = .ok (.getfield 31, 3) := by decide +kernel
theorem dX11_led_41 : decode cX11_led 41 = .ok (.iconst 0, 1) := by decide +kernel
theorem dX11_led_42 : decode cX11_led 42 = .ok (.laload, 1) := by decide +kernel
theorem dX11_led_43 : decode cX11_led 43 = .ok (.lcmp, 1) := by decide +kernel
theorem dX11_led_44 : decode cX11_led 44 = .ok (.ifCond .eq 26, 3) := by decide +kernel
theorem dX11_led_47 : decode cX11_led 47 = .ok (.aload_n 0, 1) := by decide +kernel
theorem dX11_led_48 : decode cX11_led 48 = .ok (.getfield 338, 3) := by decide +kernel
theorem dX11_led_51 : decode cX11_led 51 = .ok (.getfield 273, 3) := by decide +kernel
theorem dX11_led_54 : decode cX11_led 54 = .ok (.iload_n 3, 1) := by decide +kernel
theorem dX11_led_55 : decode cX11_led 55 = .ok (.iaload, 1) := by decide +kernel
theorem dX11_led_56 : decode cX11_led 56 = .ok (.i2l, 1) := by decide +kernel
theorem dX11_led_57 : decode cX11_led 57 = .ok (.aload_n 0, 1) := by decide +kernel
theorem dX11_led_58 : decode cX11_led 58 = .ok (.getfield 31, 3) := by decide +kernel
theorem dX11_led_61 : decode cX11_led 61 = .ok (.iconst 0, 1) := by decide +kernel
theorem dX11_led_62 : decode cX11_led 62 = .ok (.laload, 1) := by decide +kernel
theorem dX11_led_63 : decode cX11_led 63 = .ok (.lcmp, 1) := by decide +kernel
theorem dX11_led_64 : decode cX11_led 64 = .ok (.ifCond .eq 6, 3) := by decide +kernel
theorem dX11_led_67 : decode cX11_led 67 = .ok (.goto 13, 3) := by decide +kernel
theorem dX11_led_70 : decode cX11_led 70 = .ok (.iload_n 2, 1) := by decide +kernel
theorem dX11_led_71 : decode cX11_led 71 = .ok (.iload_n 1, 1) := by decide +kernel
theorem dX11_led_72 : decode cX11_led 72 = .ok (.if_icmp .ne 5, 3) := by decide +kernel
theorem dX11_led_75 : decode cX11_led 75 = .ok (.iload_n 3, 1) := by decide +kernel
theorem dX11_led_76 : decode cX11_led 76 = .ok (.ireturn, 1) := by decide +kernel
theorem dX11_led_77 : decode cX11_led 77 = .ok (.iinc 2 1, 3) := by decide +kernel
theorem dX11_led_80 : decode cX11_led 80 = .ok (.iinc 3 1, 3) := by decide +kernel
theorem dX11_led_83 : decode cX11_led 83 = .ok (.goto (-74), 3) := by decide +kernel
theorem dX11_led_86 : decode cX11_led 86 = .ok (.aload_n 0, 1) := by decide +kernel
theorem dX11_led_87 : decode cX11_led 87 = .ok (.iconst 1, 1) := by decide +kernel
theorem dX11_led_88 : decode cX11_led 88 = .ok (.putfield 40, 3) := by decide +kernel
theorem dX11_led_91 : decode cX11_led 91 = .ok (.iconst 0, 1) := by decide +kernel
theorem dX11_led_92 : decode cX11_led 92 = .ok (.ireturn, 1) := by decide +kernel
theorem dX11_size_0 : decode cX11_size 0 = .ok (.aload_n 0, 1) := by decide +kernel
theorem dX11_size_1 : decode cX11_size 1 = .ok (.iconst 0, 1) := by decide +kernel
theorem dX11_size_2 : decode cX11_size 2 = .ok (.putfield 40, 3) := by decide +kernel
theorem dX11_size_5 : decode cX11_size 5 = .ok (.iload_n 1, 1) := by decide +kernel
theorem dX11_size_6 : decode cX11_size 6 = .ok (.bipush 11, 2) := by decide +kernel
theorem dX11_size_8 : decode cX11_size 8 = .ok (.if_icmp .ne 8, 3) := by decide +kernel
theorem dX11_size_11 : decode cX11_size 11 = .ok (.aload_n 0, 1) := by decide +kernel
theorem dX11_size_12 : decode cX11_size 12 = .ok (.getfield 331, 3) := by decide +kernel
theorem dX11_size_15 : decode cX11_size 15 = .ok (.ireturn, 1) := by decide +kernel
theorem dX11_size_16 : decode cX11_size 16 = .ok (.iload_n 1, 1) := by decide +kernel
theorem dX11_size_17 : decode cX11_size 17 = .ok (.iconst 0, 1) := by decide +kernel
theorem dX11_size_18 : decode cX11_size 18 = .ok (.bipush 10, 2) := by decide +kernel
theorem dX11_size_20 : decode cX11_size 20 = .ok (.invokestatic 118, 3) := by decide +kernel
theorem dX11_size_23 : decode cX11_size 23 = .ok (.ifCond .ne 5, 3) := by decide +kernel
theorem dX11_size_26 : decode cX11_size 26 = .ok (.iconst (-1), 1) := by decide +kernel
theorem dX11_size_27 : decode cX11_size 27 = .ok (.ireturn, 1) := by decide +kernel
theorem dX11_size_28 : decode cX11_size 28 = .ok (.aload_n 0, 1) := by decide +kernel
theorem dX11_size_29 : decode cX11_size 29 = .ok (.getfield 338, 3) := by decide +kernel
theorem dX11_size_32 : decode cX11_size 32 = .ok (.ifnonnull 5, 3) := by decide +kernel
theorem dX11_size_35 : decode cX11_size 35 = .ok (.iconst 0, 1) := by decide +kernel
theorem dX11_size_36 : decode cX11_size 36 = .ok (.ireturn, 1) := by decide +kernel
theorem dX11_size_37 : decode cX11_size 37 = .ok (.iload_n 1, 1) := by decide +kernel
theorem dX11_size_38 : decode cX11_size 38 = .ok (.tableswitch 151 0 9 #[54, 62, 70, 78, 86, 94, 102, 107, 127, 146], 54) := by decide +kernel
theorem dX11_size_92 : decode cX11_size 92 = .ok (.aload_n 0, 1) := by decide +kernel
theorem dX11_size_93 : decode cX11_size 93 = .ok (.getfield 338, 3) := by decide +kernel
theorem dX11_size_96 : decode cX11_size 96 = .ok (.getfield 151, 3) := by decide +kernel
theorem dX11_size_99 : decode cX11_size 99 = .ok (.ireturn, 1) := by decide +kernel
theorem dX11_size_100 : decode cX11_size 100 = .ok (.aload_n 0, 1) := by decide +kernel
theorem dX11_size_101 : decode cX11_size 101 = .ok (.getfield 338, 3) := by decide +kernel
theorem dX11_size_104 : decode cX11_size 104 = .ok (.getfield 219, 3) := by decide +kernel
theorem dX11_size_107 : decode cX11_size 107 = .ok (.ireturn, 1) := by decide +kernel
theorem dX11_size_108 : decode cX11_size 108 = .ok (.aload_n 0, 1) := by decide +kernel
theorem dX11_size_109 : decode cX11_size 109 = .ok (.getfield 338, 3) := by decide +kernel
theorem dX11_size_112 : decode cX11_size 112 = .ok (.getfield 190, 3) := by decide +kernel
theorem dX11_size_115 : decode cX11_size 115 = .ok (.ireturn, 1) := by decide +kernel
theorem dX11_size_116 : decode cX11_size 116 = .ok (.aload_n 0, 1) := by decide +kernel
theorem dX11_size_117 : decode cX11_size 117 = .ok (.getfield 338, 3) := by decide +kernel
theorem dX11_size_120 : decode cX11_size 120 = .ok (.getfield 264, 3) := by decide +kernel
theorem dX11_size_123 : decode cX11_size 123 = .ok (.ireturn, 1) := by decide +kernel
theorem dX11_size_124 : decode cX11_size 124 = .ok (.aload_n 0, 1) := by decide +kernel
theorem dX11_size_125 : decode cX11_size 125 = .ok (.getfield 338, 3) := by decide +kernel
theorem dX11_size_128 : decode cX11_size 128 = .ok (.getfield 193, 3) := by decide +kernel
theorem dX11_size_131 : decode cX11_size 131 = .ok (.ireturn, 1) := by decide +kernel
theorem dX11_size_132 : decode cX11_size 132 = .ok (.aload_n 0, 1) := by decide +kernel
theorem dX11_size_133 : decode cX11_size 133 = .ok (.getfield 338, 3) := by decide +kernel
theorem dX11_size_136 : decode cX11_size 136 = .ok (.getfield 323, 3) := by decide +kernel
theorem dX11_size_139 : decode cX11_size 139 = .ok (.ireturn, 1) := by decide +kernel
theorem dX11_size_140 : decode cX11_size 140 = .ok (.aload_n 0, 1) := by decide +kernel
theorem dX11_size_141 : decode cX11_size 141 = .ok (.getfield 28, 3) := by decide +kernel
theorem dX11_size_144 : decode cX11_size 144 = .ok (.ireturn, 1) := by decide +kernel
theorem dX11_size_145 : decode cX11_size 145 = .ok (.aload_n 0, 1) := by decide +kernel
theorem dX11_size_146 : decode cX11_size 146 = .ok (.invokevirtual 484, 3) := by decide +kernel
theorem dX11_size_149 : decode cX11_size 149 = .ok (.ifCond .eq 13, 3) := by decide +kernel
theorem dX11_size_152 : decode cX11_size 152 = .ok (.aload_n 0, 1) := by decide +kernel
theorem dX11_size_153 : decode cX11_size 153 = .ok (.getfield 31, 3) := by decide +kernel
theorem dX11_size_156 : decode cX11_size 156 = .ok (.iconst 0, 1) := by decide +kernel
theorem dX11_size_157 : decode cX11_size 157 = .ok (.laload, 1) := by decide +kernel
theorem dX11_size_158 : decode cX11_size 158 = .ok (.l2i, 1) := by decide +kernel
theorem dX11_size_159 : decode cX11_size 159 = .ok (.goto 5, 3) := by decide +kernel
theorem dX11_size_162 : decode cX11_size 162 = .ok (.bipush (-2), 2) := by decide +kernel
theorem dX11_size_164 : decode cX11_size 164 = .ok (.ireturn, 1) := by decide +kernel
theorem dX11_size_165 : decode cX11_size 165 = .ok (.aload_n 0, 1) := by decide +kernel
theorem dX11_size_166 : decode cX11_size 166 = .ok (.invokevirtual 484, 3) := by decide +kernel
theorem dX11_size_169 : decode cX11_size 169 = .ok (.ifCond .eq 13, 3) := by decide +kernel
theorem dX11_size_172 : decode cX11_size 172 = .ok (.aload_n 0, 1) := by decide +kernel
theorem dX11_size_173 : decode cX11_size 173 = .ok (.getfield 31, 3) := by decide +kernel
theorem dX11_size_176 : decode cX11_size 176 = .ok (.iconst 1, 1) := by decide +kernel
theorem dX11_size_177 : decode cX11_size 177 = .ok (.laload, 1) := by decide +kernel
theorem dX11_size_178 : decode cX11_size 178 = .ok (.l2i, 1) := by decide +kernel
theorem dX11_size_179 : decode cX11_size 179 = .ok (.goto 4, 3) := by decide +kernel
theorem dX11_size_182 : decode cX11_size 182 = .ok (.iconst 0, 1) := by decide +kernel
theorem dX11_size_183 : decode cX11_size 183 = .ok (.ireturn, 1) := by decide +kernel
theorem dX11_size_184 : decode cX11_size 184 = .ok (.aload_n 0, 1) := by decide +kernel
theorem dX11_size_185 : decode cX11_size 185 = .ok (.getfield 340, 3) := by decide +kernel
theorem dX11_size_188 : decode cX11_size 188 = .ok (.ireturn, 1) := by decide +kernel
theorem dX11_size_189 : decode cX11_size 189 = .ok (.aload_n 0, 1) := by decide +kernel
theorem dX11_size_190 : decode cX11_size 190 = .ok (.getfield 343, 3) := by decide +kernel
theorem dX11_size_193 : decode cX11_size 193 = .ok (.ireturn, 1) := by decide +kernel
theorem dX11_trouble_0 : decode cX11_trouble 0 = .ok (.aload_n 0, 1) := by decide +kernel
theorem dX11_trouble_1 : decode cX11_trouble 1 = .ok (.iconst 0, 1) := by decide +kernel
theorem dX11_trouble_2 : decode cX11_trouble 2 = .ok (.putfield 40, 3) := by decide +kernel
theorem dX11_trouble_5 : decode cX11_trouble 5 = .ok (.aload_n 0, 1) := by decide +kernel
theorem dX11_trouble_6 : decode cX11_trouble 6 = .ok (.getfield 43, 3) := by decide +kernel
theorem dX11_trouble_9 : decode cX11_trouble 9 = .ok (.ireturn, 1) := by decide +kernel
theorem dJ9_max_7cf53_0 : decode cJ9_max_7cf53 0 = .ok (.iload_n 0, 1) := by decide +kernel
theorem dJ9_max_7cf53_1 : decode cJ9_max_7cf53 1 = .ok (.iload_n 1, 1) := by decide +kernel
theorem dJ9_max_7cf53_2 : decode cJ9_max_7cf53 2 = .ok (.if_icmp .lt 7, 3) := by decide +kernel
theorem dJ9_max_7cf53_5 : decode cJ9_max_7cf53 5 = .ok (.iload_n 0, 1) := by decide +kernel
theorem dJ9_max_7cf53_6 : decode cJ9_max_7cf53 6 = .ok (.goto 4, 3) := by decide +kernel
theorem dJ9_max_7cf53_9 : decode cJ9_max_7cf53 9 = .ok (.iload_n 1, 1) := by decide +kernel
theorem dJ9_max_7cf53_10 : decode cJ9_max_7cf53 10 = .ok (.ireturn, 1) := by decide +kernel
theorem dJ9_max_f86c9_0 : decode cJ9_max_f86c9 0 = .ok (.lload_n 0, 1) := by decide +kernel
theorem dJ9_max_f86c9_1 : decode cJ9_max_f86c9 1 = .ok (.lload_n 2, 1) := by decide +kernel
theorem dJ9_max_f86c9_2 : decode cJ9_max_f86c9 2 = .ok (.lcmp, 1) := by decide +kernel
theorem dJ9_max_f86c9_3 : decode cJ9_max_f86c9 3 = .ok (.ifCond .lt 7, 3) := by decide +kernel
theorem dJ9_max_f86c9_6 : decode cJ9_max_f86c9 6 = .ok (.lload_n 0, 1) := by decide +kernel
theorem dJ9_max_f86c9_7 : decode cJ9_max_f86c9 7 = .ok (.goto 4, 3) := by decide +kernel
theorem dJ9_max_f86c9_10 : decode cJ9_max_f86c9 10 = .ok (.lload_n 2, 1) := by decide +kernel
theorem dJ9_max_f86c9_11 : decode cJ9_max_f86c9 11 = .ok (.lreturn, 1) := by decide +kernel
theorem dJ9_min_7cf53_0 : decode cJ9_min_7cf53 0 = .ok (.iload_n 0, 1) := by decide +kernel
theorem dJ9_min_7cf53_1 : decode cJ9_min_7cf53 1 = .ok (.iload_n 1, 1) := by decide +kernel
theorem dJ9_min_7cf53_2 : decode cJ9_min_7cf53 2 = .ok (.if_icmp .gt 7, 3) := by decide +kernel
theorem dJ9_min_7cf53_5 : decode cJ9_min_7cf53 5 = .ok (.iload_n 0, 1) := by decide +kernel
theorem dJ9_min_7cf53_6 : decode cJ9_min_7cf53 6 = .ok (.goto 4, 3) := by decide +kernel
theorem dJ9_min_7cf53_9 : decode cJ9_min_7cf53 9 = .ok (.iload_n 1, 1) := by decide +kernel
theorem dJ9_min_7cf53_10 : decode cJ9_min_7cf53 10 = .ok (.ireturn, 1) := by decide +kernel
theorem dJ0_length_8abf5_0 : decode cJ0_length_8abf5 0 = .ok (.aload_n 0, 1) := by decide +kernel
theorem dJ0_length_8abf5_1 : decode cJ0_length_8abf5 1 = .ok (.getfield 9, 3) := by decide +kernel
theorem dJ0_length_8abf5_4 : decode cJ0_length_8abf5 4 = .ok (.arraylength, 1) := by decide +kernel
theorem dJ0_length_8abf5_5 : decode cJ0_length_8abf5 5 = .ok (.aload_n 0, 1) := by decide +kernel
theorem dJ0_length_8abf5_6 : decode cJ0_length_8abf5 6 = .ok (.invokevirtual 335, 3) := by decide +kernel
theorem dJ0_length_8abf5_9 : decode cJ0_length_8abf5 9 = .ok (.ishr, 1) := by decide +kernel
theorem dJ0_length_8abf5_10 : decode cJ0_length_8abf5 10 = .ok (.ireturn, 1) := by decide +kernel
theorem dJ0_charAt_5068e_0 : decode cJ0_charAt_5068e 0 = .ok (.aload_n 0, 1) := by decide +kernel
theorem dJ0_charAt_5068e_1 : decode cJ0_charAt_5068e 1 = .ok (.invokevirtual 492, 3) := by decide +kernel
theorem dJ0_charAt_5068e_4 : decode cJ0_charAt_5068e 4 = .ok (.ifCond .eq 12, 3) := by decide +kernel
theorem dJ0_charAt_5068e_7 : decode cJ0_charAt_5068e 7 = .ok (.aload_n 0, 1) := by decide +kernel
theorem dJ0_charAt_5068e_8 : decode cJ0_charAt_5068e 8 = .ok (.getfield 9, 3) := by decide +kernel
theorem dJ0_charAt_5068e_11 : decode cJ0_charAt_5068e 11 = .ok (.iload_n 1, 1) := by decide +kernel
theorem dJ0_charAt_5068e_12 : decode cJ0_charAt_5068e 12 = .ok (.invokestatic 495, 3) := by decide +kernel
theorem dJ0_charAt_5068e_15 : decode cJ0_charAt_5068e 15 = .ok (.ireturn, 1) := by decide +kernel
theorem dJ0_charAt_5068e_16 : decode cJ0_charAt_5068e 16 = .ok (.aload_n 0, 1) := by decide +kernel
theorem dJ0_charAt_5068e_17 : decode cJ0_charAt_5068e 17 = .ok (.getfield 9, 3) := by decide +kernel
theorem dJ0_charAt_5068e_20 : decode cJ0_charAt_5068e 20 = .ok (.iload_n 1, 1) := by decide +kernel
theorem dJ0_charAt_5068e_21 : decode cJ0_charAt_5068e 21 = .ok (.invokestatic 498, 3) := by decide +kernel
theorem dJ0_charAt_5068e_24 : decode cJ0_charAt_5068e 24 = .ok (.ireturn, 1) := by decide +kernel
theorem dJ0_coder_7d493_0 : decode cJ0_coder_7d493 0 = .ok (.getstatic 38, 3) := by decide +kernel
theorem dJ0_coder_7d493_3 : decode cJ0_coder_7d493 3 = .ok (.ifCond .eq 10, 3) := by decide +kernel
theorem dJ0_coder_7d493_6 : decode cJ0_coder_7d493 6 = .ok (.aload_n 0, 1) := by decide +kernel
theorem dJ0_coder_7d493_7 : decode cJ0_coder_7d493 7 = .ok (.getfield 15, 3) := by decide +kernel
theorem dJ0_coder_7d493_10 : decode cJ0_coder_7d493 10 = .ok (.goto 4, 3) := by decide +kernel
theorem dJ0_coder_7d493_13 : decode cJ0_coder_7d493 13 = .ok (.iconst 1, 1) := by decide +kernel
theorem dJ0_coder_7d493_14 : decode cJ0_coder_7d493 14 = .ok (.ireturn, 1) := by decide +kernel
theorem dJ0_isLatin1_aae02_0 : decode cJ0_isLatin1_aae02 0 = .ok (.getstatic 38, 3) := by decide +kernel
theorem dJ0_isLatin1_aae02_3 : decode cJ0_isLatin1_aae02 3 = .ok (.ifCond .eq 14, 3) := by decide +kernel
theorem dJ0_isLatin1_aae02_6 : decode cJ0_isLatin1_aae02 6 = .ok (.aload_n 0, 1) := by decide +kernel
theorem dJ0_isLatin1_aae02_7 : decode cJ0_isLatin1_aae02 7 = .ok (.getfield 15, 3) := by decide +kernel
theorem dJ0_isLatin1_aae02_10 : decode cJ0_isLatin1_aae02 10 = .ok (.ifCond .ne 7, 3) := by decide +kernel
theorem dJ0_isLatin1_aae02_13 : decode cJ0_isLatin1_aae02 13 = .ok (.iconst 1, 1) := by decide +kernel
theorem dJ0_isLatin1_aae02_14 : decode cJ0_isLatin1_aae02 14 = .ok (.goto 4, 3) := by decide +kernel
theorem dJ0_isLatin1_aae02_17 : decode cJ0_isLatin1_aae02 17 = .ok (.iconst 0, 1) := by decide +kernel
theorem dJ0_isLatin1_aae02_18 : decode cJ0_isLatin1_aae02 18 = .ok (.ireturn, 1) := by decide +kernel
theorem dJ0_checkIndex_df160_0 : decode cJ0_checkIndex_df160 0 = .ok (.iload_n 0, 1) := by decide +kernel
theorem dJ0_checkIndex_df160_1 : decode cJ0_checkIndex_df160 1 = .ok (.iload_n 1, 1) := by decide +kernel
theorem dJ0_checkIndex_df160_2 : decode cJ0_checkIndex_df160 2 = .ok (.getstatic 1053, 3) := by decide +kernel
theorem dJ0_checkIndex_df160_5 : decode cJ0_checkIndex_df160 5 = .ok (.invokestatic 1059, 3) := by decide +kernel
theorem dJ0_checkIndex_df160_8 : decode cJ0_checkIndex_df160 8 = .ok (.pop, 1) := by decide +kernel
theorem dJ0_checkIndex_df160_9 : decode cJ0_checkIndex_df160 9 = .ok (.return_, 1) := by decide +kernel
theorem dJ1_charAt_3b067_0 : decode cJ1_charAt_3b067 0 = .ok (.iload_n 1, 1) := by decide +kernel
theorem dJ1_charAt_3b067_1 : decode cJ1_charAt_3b067 1 = .ok (.aload_n 0, 1) := by decide +kernel
theorem dJ1_charAt_3b067_2 : decode cJ1_charAt_3b067 2 = .ok (.arraylength, 1) := by decide +kernel
theorem dJ1_charAt_3b067_3 : decode cJ1_charAt_3b067 3 = .ok (.invokestatic 9, 3) := by decide +kernel
theorem dJ1_charAt_3b067_6 : decode cJ1_charAt_3b067 6 = .ok (.aload_n 0, 1) := by decide +kernel
theorem dJ1_charAt_3b067_7 : decode cJ1_charAt_3b067 7 = .ok (.iload_n 1, 1) := by decide +kernel
theorem dJ1_charAt_3b067_8 : decode cJ1_charAt_3b067 8 = .ok (.baload, 1) := by decide +kernel
theorem dJ1_charAt_3b067_9 : decode cJ1_charAt_3b067 9 = .ok (.sipush 255, 3) := by decide +kernel
theorem dJ1_charAt_3b067_12 : decode cJ1_charAt_3b067 12 = .ok (.iand, 1) := by decide +kernel
theorem dJ1_charAt_3b067_13 : decode cJ1_charAt_3b067 13 = .ok (.i2c, 1) := by decide +kernel
theorem dJ1_charAt_3b067_14 : decode cJ1_charAt_3b067 14 = .ok (.ireturn, 1) := by decide +kernel
theorem dJ2_getChar_3b067_0 : decode cJ2_getChar_3b067 0 = .ok (.getstatic 44, 3) := by decide +kernel
theorem dJ2_getChar_3b067_3 : decode cJ2_getChar_3b067 3 = .ok (.ifCond .ne 25, 3) := by decide +kernel
theorem dJ2_getChar_3b067_6 : decode cJ2_getChar_3b067 6 = .ok (.iload_n 1, 1) := by decide +kernel
theorem dJ2_getChar_3b067_7 : decode cJ2_getChar_3b067 7 = .ok (.ifCond .lt 11, 3) := by decide +kernel
theorem dJ2_getChar_3b067_10 : decode cJ2_getChar_3b067 10 = .ok (.iload_n 1, 1) := by decide +kernel
theorem dJ2_getChar_3b067_11 : decode cJ2_getChar_3b067 11 = .ok (.aload_n 0, 1) := by decide +kernel
theorem dJ2_getChar_3b067_12 : decode cJ2_getChar_3b067 12 = .ok (.invokestatic 48, 3) := by decide +kernel
theorem dJ2_getChar_3b067_15 : decode cJ2_getChar_3b067 15 = .ok (.if_icmp .lt 13, 3) := by decide +kernel
theorem dJ2_getChar_3b067_18 : decode cJ2_getChar_3b067 18 = .ok (.new 52, 3) := by decide +kernel
theorem dJ2_getChar_3b067_21 : decode cJ2_getChar_3b067 21 = .ok (.dup, 1) := by decide +kernel
theorem dJ2_getChar_3b067_22 : decode cJ2_getChar_3b067 22 = .ok (.ldc 54, 2) := by decide +kernel
theorem dJ2_getChar_3b067_24 : decode cJ2_getChar_3b067 24 = .ok (.invokespecial 56, 3) := by decide +kernel
theorem dJ2_getChar_3b067_27 : decode cJ2_getChar_3b067 27 = .ok (.athrow, 1) := by decide +kernel
theorem dJ2_getChar_3b067_28 : decode cJ2_getChar_3b067 28 = .ok (.iload_n 1, 1) := by decide +kernel
theorem dJ2_getChar_3b067_29 : decode cJ2_getChar_3b067 29 = .ok (.iconst 1, 1) := by decide +kernel
theorem dJ2_getChar_3b067_30 : decode cJ2_getChar_3b067 30 = .ok (.ishl, 1) := by decide +kernel
theorem dJ2_getChar_3b067_31 : decode cJ2_getChar_3b067 31 = .ok (.istore_n 1, 1) := by decide +kernel
theorem dJ2_getChar_3b067_32 : decode cJ2_getChar_3b067 32 = .ok (.aload_n 0, 1) := by decide +kernel
theorem dJ2_getChar_3b067_33 : decode cJ2_getChar_3b067 33 = .ok (.iload_n 1, 1) := by decide +kernel
theorem dJ2_getChar_3b067_34 : decode cJ2_getChar_3b067 34 = .ok (.iinc 1 1, 3) := by decide +kernel
theorem dJ2_getChar_3b067_37 : decode cJ2_getChar_3b067 37 = .ok (.baload, 1) := by decide +kernel
theorem dJ2_getChar_3b067_38 : decode cJ2_getChar_3b067 38 = .ok (.sipush 255, 3) := by decide +kernel
theorem dJ2_getChar_3b067_41 : decode cJ2_getChar_3b067 41 = .ok (.iand, 1) := by decide +kernel
theorem dJ2_getChar_3b067_42 : decode cJ2_getChar_3b067 42 = .ok (.getstatic 59, 3) := by decide +kernel
theorem dJ2_getChar_3b067_45 : decode cJ2_getChar_3b067 45 = .ok (.ishl, 1) := by decide +kernel
theorem dJ2_getChar_3b067_46 : decode cJ2_getChar_3b067 46 = .ok (.aload_n 0, 1) := by decide +kernel
theorem dJ2_getChar_3b067_47 : decode cJ2_getChar_3b067 47 = .ok (.iload_n 1, 1) := by decide +kernel
theorem dJ2_getChar_3b067_48 : decode cJ2_getChar_3b067 48 = .ok (.baload, 1) := by decide +kernel
theorem dJ2_getChar_3b067_49 : decode cJ2_getChar_3b067 49 = .ok (.sipush 255, 3) := by decide +kernel
theorem dJ2_getChar_3b067_52 : decode cJ2_getChar_3b067 52 = .ok (.iand, 1) := by decide +kernel
theorem dJ2_getChar_3b067_53 : decode cJ2_getChar_3b067 53 = .ok (.getstatic 63, 3) := by decide +kernel
theorem dJ2_getChar_3b067_56 : decode cJ2_getChar_3b067 56 = .ok (.ishl, 1) := by decide +kernel
theorem dJ2_getChar_3b067_57 : decode cJ2_getChar_3b067 57 = .ok (.ior, 1) := by decide +kernel
theorem dJ2_getChar_3b067_58 : decode cJ2_getChar_3b067 58 = .ok (.i2c, 1) := by decide +kernel
theorem dJ2_getChar_3b067_59 : decode cJ2_getChar_3b067 59 = .ok (.ireturn, 1) := by decide +kernel
theorem dJ2_length_9d52b_0 : decode cJ2_length_9d52b 0 = .ok (.aload_n 0, 1) := by decide +kernel
theorem dJ2_length_9d52b_1 : decode cJ2_length_9d52b 1 = .ok (.arraylength, 1) := by decide +kernel
theorem dJ2_length_9d52b_2 : decode cJ2_length_9d52b 2 = .ok (.iconst 1, 1) := by decide +kernel
theorem dJ2_length_9d52b_3 : decode cJ2_length_9d52b 3 = .ok (.ishr, 1) := by decide +kernel
theorem dJ2_length_9d52b_4 : decode cJ2_length_9d52b 4 = .ok (.ireturn, 1) := by decide +kernel
theorem dJ2_charAt_3b067_0 : decode cJ2_charAt_3b067 0 = .ok (.iload_n 1, 1) := by decide +kernel
theorem dJ2_charAt_3b067_1 : decode cJ2_charAt_3b067 1 = .ok (.aload_n 0, 1) := by decide +kernel
theorem dJ2_charAt_3b067_2 : decode cJ2_charAt_3b067 2 = .ok (.invokestatic 67, 3) := by decide +kernel
theorem dJ2_charAt_3b067_5 : decode cJ2_charAt_3b067 5 = .ok (.aload_n 0, 1) := by decide +kernel
theorem dJ2_charAt_3b067_6 : decode cJ2_charAt_3b067 6 = .ok (.iload_n 1, 1) := by decide +kernel
theorem dJ2_charAt_3b067_7 : decode cJ2_charAt_3b067 7 = .ok (.invokestatic 71, 3) := by decide +kernel
theorem dJ2_charAt_3b067_10 : decode cJ2_charAt_3b067 10 = .ok (.ireturn, 1) := by decide +kernel
theorem dJ2_checkIndex_2214a_0 : decode cJ2_checkIndex_2214a 0 = .ok (.iload_n 0, 1) := by decide +kernel
theorem dJ2_checkIndex_2214a_1 : decode cJ2_checkIndex_2214a 1 = .ok (.aload_n 1, 1) := by decide +kernel
theorem dJ2_checkIndex_2214a_2 : decode cJ2_checkIndex_2214a 2 = .ok (.invokestatic 48, 3) := by decide +kernel
theorem dJ2_checkIndex_2214a_5 : decode cJ2_checkIndex_2214a 5 = .ok (.invokestatic 414, 3) := by decide +kernel
theorem dJ2_checkIndex_2214a_8 : decode cJ2_checkIndex_2214a 8 = .ok (.return_, 1) := by decide +kernel
theorem dJ3_checkIndex_8e157_0 : decode cJ3_checkIndex_8e157 0 = .ok (.iload_n 0, 1) := by decide +kernel
theorem dJ3_checkIndex_8e157_1 : decode cJ3_checkIndex_8e157 1 = .ok (.ifCond .lt 8, 3) := by decide +kernel
theorem dJ3_checkIndex_8e157_4 : decode cJ3_checkIndex_8e157 4 = .ok (.iload_n 0, 1) := by decide +kernel
theorem dJ3_checkIndex_8e157_5 : decode cJ3_checkIndex_8e157 5 = .ok (.iload_n 1, 1) := by decide +kernel
theorem dJ3_checkIndex_8e157_6 : decode cJ3_checkIndex_8e157 6 = .ok (.if_icmp .lt 10, 3) := by decide +kernel
theorem dJ3_checkIndex_8e157_9 : decode cJ3_checkIndex_8e157 9 = .ok (.aload_n 2, 1) := by decide +kernel
theorem dJ3_checkIndex_8e157_10 : decode cJ3_checkIndex_8e157 10 = .ok (.iload_n 0, 1) := by decide +kernel
theorem dJ3_checkIndex_8e157_11 : decode cJ3_checkIndex_8e157 11 = .ok (.iload_n 1, 1) := by decide +kernel
theorem dJ3_checkIndex_8e157_12 : decode cJ3_checkIndex_8e157 12 = .ok (.invokestatic 95, 3) := by decide +kernel
theorem dJ3_checkIndex_8e157_15 : decode cJ3_checkIndex_8e157 15 = .ok (.athrow, 1) := by decide +kernel
theorem dJ3_checkIndex_8e157_16 : decode cJ3_checkIndex_8e157 16 = .ok (.iload_n 0, 1) := by decide +kernel
theorem dJ3_checkIndex_8e157_17 : decode cJ3_checkIndex_8e157 17 = .ok (.ireturn, 1) := by decide +kernel
theorem dL_led_0 : decode cL_led 0 = .ok (.aload_n 2, 1) := by decide +kernel
theorem dL_led_1 : decode cL_led 1 = .ok (.iconst 0, 1) := by decide +kernel
theorem dL_led_2 : decode cL_led 2 = .ok (.aload_n 0, 1) := by decide +kernel
theorem dL_led_3 : decode cL_led 3 = .ok (.iload_n 1, 1) := by decide +kernel
theorem dL_led_4 : decode cL_led 4 = .ok (.invokevirtual 7, 3) := by decide +kernel
theorem dL_led_7 : decode cL_led 7 = .ok (.i2l, 1) := by decide +kernel
theorem dL_led_8 : decode cL_led 8 = .ok (.lastore, 1) := by decide +kernel
theorem dL_led_9 : decode cL_led 9 = .ok (.goto 6, 3) := by decide +kernel
theorem dL_led_12 : decode cL_led 12 = .ok (.astore_n 3, 1) := by decide +kernel
theorem dL_led_13 : decode cL_led 13 = .ok (.iconst 1, 1) := by decide +kernel
theorem dL_led_14 : decode cL_led 14 = .ok (.ireturn, 1) := by decide +kernel
theorem dL_led_15 : decode cL_led 15 = .ok (.iconst 0, 1) := by decide +kernel
theorem dL_led_16 : decode cL_led 16 = .ok (.ireturn, 1) := by decide +kernel
