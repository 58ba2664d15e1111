theorem dX11_fitOf_63 : decode cX11_fitOf 63 = .ok (.iload 8, 2) := by decide +kernel
theorem dX11_fitOf_65 : decode cX11_fitOf 65 = .ok (.aload_n 0, 1) := by decide +kernel
theorem dX11_fitOf_66 : decode cX11_fitOf 66 = .ok (.getfield 338, 3) := by decide +kernel
theorem dX11_fitOf_69 : decode cX11_fitOf 69 = .ok (.getfield 320, 3) := by decide +kernel
theorem dX11_fitOf_72 : decode cX11_fitOf 72 = .ok (.iload_n 3, 1) := by decide +kernel
theorem dX11_fitOf_73 : decode cX11_fitOf 73 = .ok (.iaload, 1) := by decide +kernel
theorem dX11_fitOf_74 : decode cX11_fitOf 74 = .ok (.if_icmp .gt 116, 3) := by decide +kernel
theorem dX11_fitOf_77 : decode cX11_fitOf 77 = .ok (.iconst 1, 1) := by decide +kernel
theorem dX11_fitOf_78 : decode cX11_fitOf 78 = .ok (.istore 9, 2) := by decide +kernel
theorem dX11_fitOf_80 : decode cX11_fitOf 80 = .ok (.iconst 0, 1) := by decide +kernel
theorem dX11_fitOf_81 : decode cX11_fitOf 81 = .ok (.istore 10, 2) := by decide +kernel
theorem dX11_fitOf_83 : decode cX11_fitOf 83 = .ok (.iload 10, 2) := by decide +kernel
theorem dX11_fitOf_85 : decode cX11_fitOf 85 = .ok (.iconst 5, 1) := by decide +kernel
theorem dX11_fitOf_86 : decode cX11_fitOf 86 = .ok (.if_icmp .ge 59, 3) := by decide +kernel
theorem dX11_fitOf_89 : decode cX11_fitOf 89 = .ok (.iload 9, 2) := by decide +kernel
theorem dX11_fitOf_91 : decode cX11_fitOf 91 = .ok (.ifCond .eq 45, 3) := by decide +kernel
theorem dX11_fitOf_94 : decode cX11_fitOf 94 = .ok (.aload_n 0, 1) := by decide +kernel
theorem dX11_fitOf_95 : decode cX11_fitOf 95 = .ok (.iload_n 3, 1) := by decide +kernel
theorem dX11_fitOf_96 : decode cX11_fitOf 96 = .ok (.iload 5, 2) := by decide +kernel
theorem dX11_fitOf_98 : decode cX11_fitOf 98 = .ok (.iload 6, 2) := by decide +kernel
theorem dX11_fitOf_100 : decode cX11_fitOf 100 = .ok (.iload 7, 2) := by decide +kernel
theorem dX11_fitOf_102 : decode cX11_fitOf 102 = .ok (.iload 8, 2) := by decide +kernel
theorem dX11_fitOf_104 : decode cX11_fitOf 104 = .ok (.iload 10, 2) := by decide +kernel
theorem dX11_fitOf_106 : decode cX11_fitOf 106 = .ok (.invokevirtual 379, 3) := by decide +kernel
theorem dX11_fitOf_109 : decode cX11_fitOf 109 = .ok (.ldc2_w 387, 3) := by decide +kernel
theorem dX11_fitOf_112 : decode cX11_fitOf 112 = .ok (.aload_n 0, 1) := by decide +kernel
theorem dX11_fitOf_113 : decode cX11_fitOf 113 = .ok (.getfield 338, 3) := by decide +kernel
theorem dX11_fitOf_116 : decode cX11_fitOf 116 = .ok (.getfield 326, 3) := by decide +kernel
theorem dX11_fitOf_119 : decode cX11_fitOf 119 = .ok (.iconst 5, 1) := by decide +kernel
theorem dX11_fitOf_120 : decode cX11_fitOf 120 = .ok (.iload_n 1, 1) := by decide +kernel
theorem dX11_fitOf_121 : decode cX11_fitOf 121 = .ok (.imul, 1) := by decide +kernel
theorem dX11_fitOf_122 : decode cX11_fitOf 122 = .ok (.iload 10, 2) := by decide +kernel
theorem dX11_fitOf_124 : decode cX11_fitOf 124 = .ok (.iadd, 1) := by decide +kernel
theorem dX11_fitOf_125 : decode cX11_fitOf 125 = .ok (.iaload, 1) := by decide +kernel
theorem dX11_fitOf_126 : decode cX11_fitOf 126 = .ok (.i2l, 1) := by decide +kernel
theorem dX11_fitOf_127 : decode cX11_fitOf 127 = .ok (.lmul, 1) := by decide +kernel
theorem dX11_fitOf_128 : decode cX11_fitOf 128 = .ok (.lcmp, 1) := by decide +kernel
theorem dX11_fitOf_129 : decode cX11_fitOf 129 = .ok (.ifCond .ne 7, 3) := by decide +kernel
theorem dX11_fitOf_132 : decode cX11_fitOf 132 = .ok (.iconst 1, 1) := by decide +kernel
theorem dX11_fitOf_133 : decode cX11_fitOf 133 = .ok (.goto 4, 3) := by decide +kernel
theorem dX11_fitOf_136 : decode cX11_fitOf 136 = .ok (.iconst 0, 1) := by decide +kernel
theorem dX11_fitOf_137 : decode cX11_fitOf 137 = .ok (.istore 9, 2) := by decide +kernel
theorem dX11_fitOf_139 : decode cX11_fitOf 139 = .ok (.iinc 10 1, 3) := by decide +kernel
theorem dX11_fitOf_142 : decode cX11_fitOf 142 = .ok (.goto (-59), 3) := by decide +kernel
theorem dX11_fitOf_145 : decode cX11_fitOf 145 = .ok (.iload 9, 2) := by decide +kernel
theorem dX11_fitOf_147 : decode cX11_fitOf 147 = .ok (.ifCond .ne 6, 3) := by decide +kernel
theorem dX11_fitOf_150 : decode cX11_fitOf 150 = .ok (.goto 34, 3) := by decide +kernel
theorem dX11_fitOf_153 : decode cX11_fitOf 153 = .ok (.iload 4, 2) := by decide +kernel
theorem dX11_fitOf_155 : decode cX11_fitOf 155 = .ok (.iload_n 2, 1) := by decide +kernel
theorem dX11_fitOf_156 : decode cX11_fitOf 156 = .ok (.if_icmp .ne 25, 3) := by decide +kernel
theorem dX11_fitOf_159 : decode cX11_fitOf 159 = .ok (.sipush 1000, 3) := by decide +kernel
theorem dX11_fitOf_162 : decode cX11_fitOf 162 = .ok (.iload 5, 2) := by decide +kernel
theorem dX11_fitOf_164 : decode cX11_fitOf 164 = .ok (.imul, 1) := by decide +kernel
theorem dX11_fitOf_165 : decode cX11_fitOf 165 = .ok (.bipush 100, 2) := by decide +kernel
theorem dX11_fitOf_167 : decode cX11_fitOf 167 = .ok (.iload 6, 2) := by decide +kernel
theorem dX11_fitOf_169 : decode cX11_fitOf 169 = .ok (.imul, 1) := by decide +kernel
theorem dX11_fitOf_170 : decode cX11_fitOf 170 = .ok (.iadd, 1) := by decide +kernel
theorem dX11_fitOf_171 : decode cX11_fitOf 171 = .ok (.bipush 10, 2) := by decide +kernel
theorem dX11_fitOf_173 : decode cX11_fitOf 173 = .ok (.iload 7, 2) := by decide +kernel
theorem dX11_fitOf_175 : decode cX11_fitOf 175 = .ok (.imul, 1) := by decide +kernel
theorem dX11_fitOf_176 : decode cX11_fitOf 176 = .ok (.iadd, 1) := by decide +kernel
theorem dX11_fitOf_177 : decode cX11_fitOf 177 = .ok (.iload 8, 2) := by decide +kernel
theorem dX11_fitOf_179 : decode cX11_fitOf 179 = .ok (.iadd, 1) := by decide +kernel
theorem dX11_fitOf_180 : decode cX11_fitOf 180 = .ok (.ireturn, 1) := by decide +kernel
theorem dX11_fitOf_181 : decode cX11_fitOf 181 = .ok (.iinc 4 1, 3) := by decide +kernel
theorem dX11_fitOf_184 : decode cX11_fitOf 184 = .ok (.iinc 8 1, 3) := by decide +kernel
theorem dX11_fitOf_187 : decode cX11_fitOf 187 = .ok (.goto (-124), 3) := by decide +kernel
theorem dX11_fitOf_190 : decode cX11_fitOf 190 = .ok (.iinc 7 1, 3) := by decide +kernel
theorem dX11_fitOf_193 : decode cX11_fitOf 193 = .ok (.goto (-153), 3) := by decide +kernel
theorem dX11_fitOf_196 : decode cX11_fitOf 196 = .ok (.iinc 6 1, 3) := by decide +kernel
theorem dX11_fitOf_199 : decode cX11_fitOf 199 = .ok (.goto (-168), 3) := by decide +kernel
theorem dX11_fitOf_202 : decode cX11_fitOf 202 = .ok (.iinc 5 1, 3) := by decide +kernel
theorem dX11_fitOf_205 : decode cX11_fitOf 205 = .ok (.goto (-189), 3) := by decide +kernel
theorem dX11_fitOf_208 : decode cX11_fitOf 208 = .ok (.iload_n 2, 1) := by decide +kernel
theorem dX11_fitOf_209 : decode cX11_fitOf 209 = .ok (.ifCond .ge 8, 3) := by decide +kernel
theorem dX11_fitOf_212 : decode cX11_fitOf 212 = .ok (.iload 4, 2) := by decide +kernel
theorem dX11_fitOf_214 : decode cX11_fitOf 214 = .ok (.goto 4, 3) := by decide +kernel
theorem dX11_fitOf_217 : decode cX11_fitOf 217 = .ok (.iconst (-1), 1) := by decide +kernel
theorem dX11_fitOf_218 : decode cX11_fitOf 218 = .ok (.ireturn, 1) := by decide +kernel
theorem dX11_fits_0 : decode cX11_fits 0 = .ok (.aload_n 0, 1) := by decide +kernel
theorem dX11_fits_1 : decode cX11_fits 1 = .ok (.iconst 0, 1) := by decide +kernel
theorem dX11_fits_2 : decode cX11_fits 2 = .ok (.putfield 40, 3) := by decide +kernel
theorem dX11_fits_5 : decode cX11_fits 5 = .ok (.aload_n 0, 1) := by decide +kernel
theorem dX11_fits_6 : decode cX11_fits 6 = .ok (.iload_n 1, 1) := by decide +kernel
theorem dX11_fits_7 : decode cX11_fits 7 = .ok (.invokevirtual 468, 3) := by decide +kernel
theorem dX11_fits_10 : decode cX11_fits 10 = .ok (.ifCond .eq 16, 3) := by decide +kernel
theorem dX11_fits_13 : decode cX11_fits 13 = .ok (.aload_n 0, 1) := by decide +kernel
theorem dX11_fits_14 : decode cX11_fits 14 = .ok (.aload_n 0, 1) := by decide +kernel
theorem dX11_fits_15 : decode cX11_fits 15 = .ok (.iload_n 1, 1) := by decide +kernel
theorem dX11_fits_16 : decode cX11_fits 16 = .ok (.iconst (-1), 1) := by decide +kernel
theorem dX11_fits_17 : decode cX11_fits 17 = .ok (.invokevirtual 471, 3) := by decide +kernel
theorem dX11_fits_20 : decode cX11_fits 20 = .ok (.invokevirtual 50, 3) := by decide +kernel
theorem dX11_fits_23 : decode cX11_fits 23 = .ok (.goto 8, 3) := by decide +kernel
theorem dX11_fits_26 : decode cX11_fits 26 = .ok (.aload_n 0, 1) := by decide +kernel
theorem dX11_fits_27 : decode cX11_fits 27 = .ok (.iconst 1, 1) := by decide +kernel
theorem dX11_fits_28 : decode cX11_fits 28 = .ok (.invokevirtual 46, 3) := by decide +kernel
theorem dX11_fits_31 : decode cX11_fits 31 = .ok (.ireturn, 1) := by decide +kernel
theorem dX11_fit_0 : decode cX11_fit 0 = .ok (.aload_n 0, 1) := by decide +kernel
theorem dX11_fit_1 : decode cX11_fit 1 = .ok (.iconst 0, 1) := by decide +kernel
theorem dX11_fit_2 : decode cX11_fit 2 = .ok (.putfield 40, 3) := by decide +kernel
theorem dX11_fit_5 : decode cX11_fit 5 = .ok (.aload_n 0, 1) := by decide +kernel
theorem dX11_fit_6 : decode cX11_fit 6 = .ok (.iload_n 1, 1) := by decide +kernel
theorem dX11_fit_7 : decode cX11_fit 7 = .ok (.invokevirtual 468, 3) := by decide +kernel
theorem dX11_fit_10 : decode cX11_fit 10 = .ok (.ifCond .eq 16, 3) := by decide +kernel
theorem dX11_fit_13 : decode cX11_fit 13 = .ok (.iload_n 2, 1) := by decide +kernel
theorem dX11_fit_14 : decode cX11_fit 14 = .ok (.ifCond .lt 12, 3) := by decide +kernel
theorem dX11_fit_17 : decode cX11_fit 17 = .ok (.aload_n 0, 1) := by decide +kernel
theorem dX11_fit_18 : decode cX11_fit 18 = .ok (.iload_n 1, 1) := by decide +kernel
theorem dX11_fit_19 : decode cX11_fit 19 = .ok (.iload_n 2, 1) := by decide +kernel
theorem dX11_fit_20 : decode cX11_fit 20 = .ok (.invokevirtual 471, 3) := by decide +kernel
theorem dX11_fit_23 : decode cX11_fit 23 = .ok (.goto 4, 3) := by decide +kernel
theorem dX11_fit_26 : decode cX11_fit 26 = .ok (.iconst (-1), 1) := by decide +kernel
theorem dX11_fit_27 : decode cX11_fit 27 = .ok (.istore_n 3, 1) := by decide +kernel
theorem dX11_fit_28 : decode cX11_fit 28 = .ok (.iload_n 3, 1) := by decide +kernel
theorem dX11_fit_29 : decode cX11_fit 29 = .ok (.iconst (-1), 1) := by decide +kernel
theorem dX11_fit_30 : decode cX11_fit 30 = .ok (.if_icmp .ne 11, 3) := by decide +kernel
theorem dX11_fit_33 : decode cX11_fit 33 = .ok (.aload_n 0, 1) := by decide +kernel
theorem dX11_fit_34 : decode cX11_fit 34 = .ok (.iconst 1, 1) := by decide +kernel
theorem dX11_fit_35 : decode cX11_fit 35 = .ok (.invokevirtual 46, 3) := by decide +kernel
theorem dX11_fit_38 : decode cX11_fit 38 = .ok (.goto 8, 3) := by decide +kernel
theorem dX11_fit_41 : decode cX11_fit 41 = .ok (.aload_n 0, 1) := by decide +kernel
theorem dX11_fit_42 : decode cX11_fit 42 = .ok (.iload_n 3, 1) := by decide +kernel
theorem dX11_fit_43 : decode cX11_fit 43 = .ok (.invokevirtual 50, 3) := by decide +kernel
theorem dX11_fit_46 : decode cX11_fit 46 = .ok (.ireturn, 1) := by decide +kernel
theorem dX11_lies_0 : decode cX11_lies 0 = .ok (.aload_n 0, 1) := by decide +kernel
theorem dX11_lies_1 : decode cX11_lies 1 = .ok (.iconst 0, 1) := by decide +kernel
theorem dX11_lies_2 : decode cX11_lies 2 = .ok (.putfield 40, 3) := by decide +kernel
theorem dX11_lies_5 : decode cX11_lies 5 = .ok (.aload_n 0, 1) := by decide +kernel
theorem dX11_lies_6 : decode cX11_lies 6 = .ok (.getfield 338, 3) := by decide +kernel
theorem dX11_lies_9 : decode cX11_lies 9 = .ok (.ifnonnull 9, 3) := by decide +kernel
theorem dX11_lies_12 : decode cX11_lies 12 = .ok (.aload_n 0, 1) := by decide +kernel
theorem dX11_lies_13 : decode cX11_lies 13 = .ok (.iconst 1, 1) := by decide +kernel
theorem dX11_lies_14 : decode cX11_lies 14 = .ok (.invokevirtual 46, 3) := by decide +kernel
theorem dX11_lies_17 : decode cX11_lies 17 = .ok (.ireturn, 1) := by decide +kernel
theorem dX11_lies_18 : decode cX11_lies 18 = .ok (.iconst 0, 1) := by decide +kernel
theorem dX11_lies_19 : decode cX11_lies 19 = .ok (.istore_n 1, 1) := by decide +kernel
theorem dX11_lies_20 : decode cX11_lies 20 = .ok (.iconst 0, 1) := by decide +kernel
theorem dX11_lies_21 : decode cX11_lies 21 = .ok (.istore_n 2, 1) := by decide +kernel
theorem dX11_lies_22 : decode cX11_lies 22 = .ok (.iload_n 2, 1) := by decide +kernel
theorem dX11_lies_23 : decode cX11_lies 23 = .ok (.aload_n 0, 1) := by decide +kernel
theorem dX11_lies_24 : decode cX11_lies 24 = .ok (.getfield 338, 3) := by decide +kernel
theorem dX11_lies_27 : decode cX11_lies 27 = .ok (.getfield 323, 3) := by decide +kernel
theorem dX11_lies_30 : decode cX11_lies 30 = .ok (.if_icmp .ge 28, 3) := by decide +kernel
theorem dX11_lies_33 : decode cX11_lies 33 = .ok (.iload_n 1, 1) := by decide +kernel
theorem dX11_lies_34 : decode cX11_lies 34 = .ok (.aload_n 0, 1) := by decide +kernel
theorem dX11_lies_35 : decode cX11_lies 35 = .ok (.iload_n 2, 1) := by decide +kernel
theorem dX11_lies_36 : decode cX11_lies 36 = .ok (.iconst (-1), 1) := by decide +kernel
theorem dX11_lies_37 : decode cX11_lies 37 = .ok (.invokevirtual 471, 3) := by decide +kernel
theorem dX11_lies_40 : decode cX11_lies 40 = .ok (.ifCond .ne 9, 3) := by decide +kernel
theorem dX11_lies_43 : decode cX11_lies 43 = .ok (.iconst 1, 1) := by decide +kernel
theorem dX11_lies_44 : decode cX11_lies 44 = .ok (.iload_n 2, 1) := by decide +kernel
theorem dX11_lies_45 : decode cX11_lies 45 = .ok (.ishl, 1) := by decide +kernel
theorem dX11_lies_46 : decode cX11_lies 46 = .ok (.goto 4, 3) := by decide +kernel
theorem dX11_lies_49 : decode cX11_lies 49 = .ok (.iconst 0, 1) := by decide +kernel
theorem dX11_lies_50 : decode cX11_lies 50 = .ok (.ior, 1) := by decide +kernel
theorem dX11_lies_51 : decode cX11_lies 51 = .ok (.istore_n 1, 1) := by decide +kernel
theorem dX11_lies_52 : decode cX11_lies 52 = .ok (.iinc 2 1, 3) := by decide +kernel
theorem dX11_lies_55 : decode cX11_lies 55 = .ok (.goto (-33), 3) := by decide +kernel
theorem dX11_lies_58 : decode cX11_lies 58 = .ok (.aload_n 0, 1) := by decide +kernel
theorem dX11_lies_59 : decode cX11_lies 59 = .ok (.iload_n 1, 1) := by decide +kernel
theorem dX11_lies_60 : decode cX11_lies 60 = .ok (.invokevirtual 50, 3) := by decide +kernel
theorem dX11_lies_63 : decode cX11_lies 63 = .ok (.ireturn, 1) := by decide +kernel
theorem dX11_isDay_0 : decode cX11_isDay 0 = .ok (.aload_n 0, 1) := by decide +kernel
theorem dX11_isDay_1 : decode cX11_isDay 1 = .ok (.getfield 338, 3) := by decide +kernel
theorem dX11_isDay_4 : decode cX11_isDay 4 = .ok (.ifnull 16, 3) := by decide +kernel
theorem dX11_isDay_7 : decode cX11_isDay 7 = .ok (.aload_n 0, 1) := by decide +kernel
theorem dX11_isDay_8 : decode cX11_isDay 8 = .ok (.getfield 28, 3) := by decide +kernel
theorem dX11_isDay_11 : decode cX11_isDay 11 = .ok (.bipush (-2), 2) := by decide +kernel
theorem dX11_isDay_13 : decode cX11_isDay 13 = .ok (.if_icmp .eq 7, 3) := by decide +kernel
theorem dX11_isDay_16 : decode cX11_isDay 16 = .ok (.iconst 1, 1) := by decide +kernel
theorem dX11_isDay_17 : decode cX11_isDay 17 = .ok (.goto 4, 3) := by decide +kernel
theorem dX11_isDay_20 : decode cX11_isDay 20 = .ok (.iconst 0, 1) := by decide +kernel
theorem dX11_isDay_21 : decode cX11_isDay 21 = .ok (.ireturn, 1) := by decide +kernel
theorem dX11_day_0 : decode cX11_day 0 = .ok (.aload_n 0, 1) := by decide +kernel
theorem dX11_day_1 : decode cX11_day 1 = .ok (.iconst 0, 1) := by decide +kernel
theorem dX11_day_2 : decode cX11_day 2 = .ok (.putfield 40, 3) := by decide +kernel
theorem dX11_day_5 : decode cX11_day 5 = .ok (.aload_n 0, 1) := by decide +kernel
theorem dX11_day_6 : decode cX11_day 6 = .ok (.iload_n 1, 1) := by decide +kernel
theorem dX11_day_7 : decode cX11_day 7 = .ok (.invokevirtual 346, 3) := by decide +kernel
theorem dX11_day_10 : decode cX11_day 10 = .ok (.ifCond .eq 11, 3) := by decide +kernel
theorem dX11_day_13 : decode cX11_day 13 = .ok (.aload_n 0, 1) := by decide +kernel
theorem dX11_day_14 : decode cX11_day 14 = .ok (.iload_n 2, 1) := by decide +kernel
theorem dX11_day_15 : decode cX11_day 15 = .ok (.invokevirtual 455, 3) := by decide +kernel
theorem dX11_day_18 : decode cX11_day 18 = .ok (.ifCond .ne 9, 3) := by decide +kernel
theorem dX11_day_21 : decode cX11_day 21 = .ok (.aload_n 0, 1) := by decide +kernel
theorem dX11_day_22 : decode cX11_day 22 = .ok (.iconst 1, 1) := by decide +kernel
theorem dX11_day_23 : decode cX11_day 23 = .ok (.invokevirtual 46, 3) := by decide +kernel
theorem dX11_day_26 : decode cX11_day 26 = .ok (.ireturn, 1) := by decide +kernel
theorem dX11_day_27 : decode cX11_day 27 = .ok (.iload_n 3, 1) := by decide +kernel
theorem dX11_day_28 : decode cX11_day 28 = .ok (.iconst 0, 1) := by decide +kernel
theorem dX11_day_29 : decode cX11_day 29 = .ok (.sipush 400, 3) := by decide +kernel
theorem dX11_day_32 : decode cX11_day 32 = .ok (.invokestatic 118, 3) := by decide +kernel
theorem dX11_day_35 : decode cX11_day 35 = .ok (.ifCond .eq 15, 3) := by decide +kernel
theorem dX11_day_38 : decode cX11_day 38 = .ok (.iload 4, 2) := by decide +kernel
theorem dX11_day_40 : decode cX11_day 40 = .ok (.iconst 0, 1) := by decide +kernel
theorem dX11_day_41 : decode cX11_day 41 = .ok (.ldc_w 474, 3) := by decide +kernel
theorem dX11_day_44 : decode cX11_day 44 = .ok (.invokestatic 118, 3) := by decide +kernel
theorem dX11_day_47 : decode cX11_day 47 = .ok (.ifCond .ne 9, 3) := by decide +kernel
theorem dX11_day_50 : decode cX11_day 50 = .ok (.aload_n 0, 1) := by decide +kernel
theorem dX11_day_51 : decode cX11_day 51 = .ok (.iconst 2, 1) := by decide +kernel
theorem dX11_day_52 : decode cX11_day 52 = .ok (.invokevirtual 46, 3) := by decide +kernel
theorem dX11_day_55 : decode cX11_day 55 = .ok (.ireturn, 1) := by decide +kernel
theorem dX11_day_56 : decode cX11_day 56 = .ok (.aload_n 0, 1) := by decide +kernel
theorem dX11_day_57 : decode cX11_day 57 = .ok (.iload_n 1, 1) := by decide +kernel
theorem dX11_day_58 : decode cX11_day 58 = .ok (.putfield 28, 3) := by decide +kernel
theorem dX11_day_61 : decode cX11_day 61 = .ok (.aload_n 0, 1) := by decide +kernel
theorem dX11_day_62 : decode cX11_day 62 = .ok (.iconst 0, 1) := by decide +kernel
theorem dX11_day_63 : decode cX11_day 63 = .ok (.putfield 475, 3) := by decide +kernel
theorem dX11_day_66 : decode cX11_day 66 = .ok (.iload 4, 2) := by decide +kernel
theorem dX11_day_68 : decode cX11_day 68 = .ok (.istore 5, 2) := by decide +kernel
theorem dX11_day_70 : decode cX11_day 70 = .ok (.iconst 0, 1) := by decide +kernel
theorem dX11_day_71 : decode cX11_day 71 = .ok (.istore 6, 2) := by decide +kernel
theorem dX11_day_73 : decode cX11_day 73 = .ok (.iload 6, 2) := by decide +kernel
theorem dX11_day_75 : decode cX11_day 75 = .ok (.aload_n 0, 1) := by decide +kernel
theorem dX11_day_76 : decode cX11_day 76 = .ok (.getfield 338, 3) := by decide +kernel
theorem dX11_day_79 : decode cX11_day 79 = .ok (.getfield 219, 3) := by decide +kernel
theorem dX11_day_82 : decode cX11_day 82 = .ok (.if_icmp .ge 62, 3) := by decide +kernel
theorem dX11_day_85 : decode cX11_day 85 = .ok (.ldc2_w 478, 3) := by decide +kernel
theorem dX11_day_88 : decode cX11_day 88 = .ok (.iload 5, 2) := by decide +kernel
theorem dX11_day_90 : decode cX11_day 90 = .ok (.i2l, 1) := by decide +kernel
theorem dX11_day_91 : decode cX11_day 91 = .ok (.lmul, 1) := by decide +kernel
theorem dX11_day_92 : decode cX11_day 92 = .ok (.ldc2_w 480, 3) := by decide +kernel
theorem dX11_day_95 : decode cX11_day 95 = .ok (.ladd, 1) := by decide +kernel
theorem dX11_day_96 : decode cX11_day 96 = .ok (.ldc2_w 482, 3) := by decide +kernel
theorem dX11_day_99 : decode cX11_day 99 = .ok (.lrem, 1) := by decide +kernel
theorem dX11_day_100 : decode cX11_day 100 = .ok (.l2i, 1) := by decide +kernel
theorem dX11_day_101 : decode cX11_day 101 = .ok (.istore 5, 2) := by decide +kernel
theorem dX11_day_103 : decode cX11_day 103 = .ok (.aload_n 0, 1) := by decide +kernel
theorem dX11_day_104 : decode cX11_day 104 = .ok (.dup, 1) := by decide +kernel
theorem dX11_day_105 : decode cX11_day 105 = .ok (.getfield 475, 3) := by decide +kernel
theorem dX11_day_108 : decode cX11_day 108 = .ok (.iload 5, 2) := by decide +kernel
theorem dX11_day_110 : decode cX11_day 110 = .ok (.bipush 100, 2) := by decide +kernel
theorem dX11_day_112 : decode cX11_day 112 = .ok (.irem, 1) := by decide +kernel
theorem dX11_day_113 : decode cX11_day 113 = .ok (.aload_n 0, 1) := by decide +kernel
theorem dX11_day_114 : decode cX11_day 114 = .ok (.getfield 338, 3) := by decide +kernel
theorem dX11_day_117 : decode cX11_day 117 = .ok (.getfield 246, 3) := by decide +kernel
theorem dX11_day_120 : decode cX11_day 120 = .ok (.iload 6, 2) := by decide +kernel
theorem dX11_day_122 : decode cX11_day 122 = .ok (.iaload, 1) := by decide +kernel
theorem dX11_day_123 : decode cX11_day 123 = .ok (.if_icmp .ge 10, 3) := by decide +kernel
theorem dX11_day_126 : decode cX11_day 126 = .ok (.iconst 1, 1) := by decide +kernel
theorem dX11_day_127 : decode cX11_day 127 = .ok (.iload 6, 2) := by decide +kernel
theorem dX11_day_129 : decode cX11_day 129 = .ok (.ishl, 1) := by decide +kernel
theorem dX11_day_130 : decode cX11_day 130 = .ok (.goto 4, 3) := by decide +kernel
theorem dX11_day_133 : decode cX11_day 133 = .ok (.iconst 0, 1) := by decide +kernel
theorem dX11_day_134 : decode cX11_day 134 = .ok (.ior, 1) := by decide +kernel
theorem dX11_day_135 : decode cX11_day 135 = .ok (.putfield 475, 3) := by decide +kernel
theorem dX11_day_138 : decode cX11_day 138 = .ok (.iinc 6 1, 3) := by decide +kernel
theorem dX11_day_141 : decode cX11_day 141 = .ok (.goto (-68), 3) := by decide +kernel
theorem dX11_day_144 : decode cX11_day 144 = .ok (.iconst 0, 1) := by decide +kernel
theorem dX11_day_145 : decode cX11_day 145 = .ok (.istore 6, 2) := by decide +kernel
theorem dX11_day_147 : decode cX11_day 147 = .ok (.iload 6, 2) := by decide +kernel
theorem dX11_day_149 : decode cX11_day 149 = .ok (.bipush 7, 2) := by decide +kernel
theorem dX11_day_151 : decode cX11_day 151 = .ok (.if_icmp .ge 17, 3) := by decide +kernel
theorem dX11_day_154 : decode cX11_day 154 = .ok (.aload_n 0, 1) := by decide +kernel
theorem dX11_day_155 : decode cX11_day 155 = .ok (.getfield 31, 3) := by decide +kernel
theorem dX11_day_158 : decode cX11_day 158 = .ok (.iload 6, 2) := by decide +kernel
theorem dX11_day_160 : decode cX11_day 160 = .ok (.lconst 0, 1) := by decide +kernel
theorem dX11_day_161 : decode cX11_day 161 = .ok (.lastore, 1) := by decide +kernel
theorem dX11_day_162 : decode cX11_day 162 = .ok (.iinc 6 1, 3) := by decide +kernel
theorem dX11_day_165 : decode cX11_day 165 = .ok (.goto (-18), 3) := by decide +kernel
theorem dX11_day_168 : decode cX11_day 168 = .ok (.aload_n 0, 1) := by decide +kernel
theorem dX11_day_169 : decode cX11_day 169 = .ok (.getfield 31, 3) := by decide +kernel
theorem dX11_day_172 : decode cX11_day 172 = .ok (.iconst 0, 1) := by decide +kernel
theorem dX11_day_173 : decode cX11_day 173 = .ok (.iload_n 2, 1) := by decide +kernel
theorem dX11_day_174 : decode cX11_day 174 = .ok (.i2l, 1) := by decide +kernel
theorem dX11_day_175 : decode cX11_day 175 = .ok (.lastore, 1) := by decide +kernel
theorem dX11_day_176 : decode cX11_day 176 = .ok (.aload_n 0, 1) := by decide +kernel
theorem dX11_day_177 : decode cX11_day 177 = .ok (.getfield 31, 3) := by decide +kernel
theorem dX11_day_180 : decode cX11_day 180 = .ok (.iconst 1, 1) := by decide +kernel
theorem dX11_day_181 : decode cX11_day 181 = .ok (.iload_n 3, 1) := by decide +kernel
theorem dX11_day_182 : decode cX11_day 182 = .ok (.i2l, 1) := by decide +kernel
theorem dX11_day_183 : decode cX11_day 183 = .ok (.lastore, 1) := by decide +kernel
theorem dX11_day_184 : decode cX11_day 184 = .ok (.aload_n 0, 1) := by decide +kernel
theorem dX11_day_185 : decode cX11_day 185 = .ok (.iconst 0, 1) := by decide +kernel
theorem dX11_day_186 : decode cX11_day 186 = .ok (.putfield 340, 3) := by decide +kernel
theorem dX11_day_189 : decode cX11_day 189 = .ok (.aload_n 0, 1) := by decide +kernel
theorem dX11_day_190 : decode cX11_day 190 = .ok (.iconst 0, 1) := by decide +kernel
theorem dX11_day_191 : decode cX11_day 191 = .ok (.putfield 343, 3) := by decide +kernel
theorem dX11_day_194 : decode cX11_day 194 = .ok (.aload_n 0, 1) := by decide +kernel
theorem dX11_day_195 : decode cX11_day 195 = .ok (.aload_n 0, 1) := by decide +kernel
theorem dX11_day_196 : decode cX11_day 196 = .ok (.getfield 475, 3) := by decide +kernel
theorem dX11_day_199 : decode cX11_day 199 = .ok (.invokevirtual 50, 3) := by decide +kernel
theorem dX11_day_202 : decode cX11_day 202 = .ok (.ireturn, 1) := by decide +kernel
theorem dX11_keeps_0 : decode cX11_keeps 0 = .ok (.aload_n 0, 1) := by decide +kernel
theorem dX11_keeps_1 : decode cX11_keeps 1 = .ok (.getfield 340, 3) := by decide +kernel
theorem dX11_keeps_4 : decode cX11_keeps 4 = .ok (.bipush 16, 2) := by decide +kernel
theorem dX11_keeps_6 : decode cX11_keeps 6 = .ok (.if_icmp .ne 42, 3) := by decide +kernel
theorem dX11_keeps_9 : decode cX11_keeps 9 = .ok (.iconst 0, 1) := by decide +kernel
theorem dX11_keeps_10 : decode cX11_keeps 10 = .ok (.istore_n 1, 1) := by decide +kernel
theorem dX11_keeps_11 : decode cX11_keeps 11 = .ok (.iload_n 1, 1) := by decide +kernel
theorem dX11_keeps_12 : decode cX11_keeps 12 = .ok (.bipush 105, 2) := by decide +kernel
theorem dX11_keeps_14 : decode cX11_keeps 14 = .ok (.if_icmp .ge 24, 3) := by decide +kernel
theorem dX11_keeps_17 : decode cX11_keeps 17 = .ok (.aload_n 0, 1) := by decide +kernel
theorem dX11_keeps_18 : decode cX11_keeps 18 = .ok (.getfield 34, 3) := by decide +kernel
theorem dX11_keeps_21 : decode cX11_keeps 21 = .ok (.iload_n 1, 1) := by decide +kernel
theorem dX11_keeps_22 : decode cX11_keeps 22 = .ok (.aload_n 0, 1) := by decide +kernel
theorem dX11_keeps_23 : decode cX11_keeps 23 = .ok (.getfield 34, 3) := by decide +kernel
theorem dX11_keeps_26 : decode cX11_keeps 26 = .ok (.iload_n 1, 1) := by decide +kernel
theorem dX11_keeps_27 : decode cX11_keeps 27 = .ok (.bipush 7, 2) := by decide +kernel
theorem dX11_keeps_29 : decode cX11_keeps 29 = .ok (.iadd, 1) := by decide +kernel
theorem dX11_keeps_30 : decode cX11_keeps 30 = .ok (.laload, 1) := by decide +kernel
theorem dX11_keeps_31 : decode cX11_keeps 31 = .ok (.lastore, 1) := by decide +kernel
theorem dX11_keeps_32 : decode cX11_keeps 32 = .ok (.iinc 1 1, 3) := by decide +kernel
theorem dX11_keeps_35 : decode cX11_keeps 35 = .ok (.goto (-24), 3) := by decide +kernel
theorem dX11_keeps_38 : decode cX11_keeps 38 = .ok (.aload_n 0, 1) := by decide +kernel
theorem dX11_keeps_39 : decode cX11_keeps 39 = .ok (.dup, 1) := by decide +kernel
theorem dX11_keeps_40 : decode cX11_keeps 40 = .ok (.getfield 340, 3) := by decide +kernel
theorem dX11_keeps_43 : decode cX11_keeps 43 = .ok (.iconst 1, 1) := by decide +kernel
theorem dX11_keeps_44 : decode cX11_keeps 44 = .ok (.isub, 1) := by decide +kernel
theorem dX11_keeps_45 : decode cX11_keeps 45 = .ok (.putfield 340, 3) := by decide +kernel
theorem dX11_keeps_48 : decode cX11_keeps 48 = .ok (.iconst 0, 1) := by decide +kernel
theorem dX11_keeps_49 : decode cX11_keeps 49 = .ok (.istore_n 1, 1) := by decide +kernel
theorem dX11_keeps_50 : decode cX11_keeps 50 = .ok (.iload_n 1, 1) := by decide +kernel
theorem dX11_keeps_51 : decode cX11_keeps 51 = .ok (.bipush 7, 2) := by decide +kernel
theorem dX11_keeps_53 : decode cX11_keeps 53 = .ok (.if_icmp .ge 29, 3) := by decide +kernel
theorem dX11_keeps_56 : decode cX11_keeps 56 = .ok (.aload_n 0, 1) := by decide +kernel
theorem dX11_keeps_57 : decode cX11_keeps 57 = .ok (.getfield 34, 3) := by decide +kernel
theorem dX11_keeps_60 : decode cX11_keeps 60 = .ok (.bipush 7, 2) := by decide +kernel
theorem dX11_keeps_62 : decode cX11_keeps 62 = .ok (.aload_n 0, 1) := by decide +kernel
theorem dX11_keeps_63 : decode cX11_keeps 63 = .ok (.getfield 340, 3) := by decide +kernel
theorem dX11_keeps_66 : decode cX11_keeps 66 = .ok (.imul, 1) := by decide +kernel
theorem dX11_keeps_67 : decode cX11_keeps 67 = .ok (.iload_n 1, 1) := by decide +kernel
theorem dX11_keeps_68 : decode cX11_keeps 68 = .ok (.iadd, 1) := by decide +kernel
theorem dX11_keeps_69 : decode cX11_keeps 69 = .ok (.aload_n 0, 1) := by decide +kernel
theorem dX11_keeps_70 : decode cX11_keeps 70 = .ok (.getfield 31, 3) := by decide +kernel
theorem dX11_keeps_73 : decode cX11_keeps 73 = .ok (.iload_n 1, 1) := by decide +kernel
theorem dX11_keeps_74 : decode cX11_keeps 74 = .ok (.laload, 1) := by decide +kernel
theorem dX11_keeps_75 : decode cX11_keeps 75 = .ok (.lastore, 1) := by decide +kernel
theorem dX11_keeps_76 : decode cX11_keeps 76 = .ok (.iinc 1 1, 3) := by decide +kernel
theorem dX11_keeps_79 : decode cX11_keeps 79 = .ok (.goto (-29), 3) := by decide +kernel
theorem dX11_keeps_82 : decode cX11_keeps 82 = .ok (.aload_n 0, 1) := by decide +kernel
theorem dX11_keeps_83 : decode cX11_keeps 83 = .ok (.dup, 1) := by decide +kernel
theorem dX11_keeps_84 : decode cX11_keeps 84 = .ok (.getfield 340, 3) := by decide +kernel
theorem dX11_keeps_87 : decode cX11_keeps 87 = .ok (.iconst 1, 1) := by decide +kernel
theorem dX11_keeps_88 : decode cX11_keeps 88 = .ok (.iadd, 1) := by decide +kernel
theorem dX11_keeps_89 : decode cX11_keeps 89 = .ok (.putfield 340, 3) := by decide +kernel
theorem dX11_keeps_92 : decode cX11_keeps 92 = .ok (.return_, 1) := by decide +kernel
theorem dX11_rainsIn_0 : decode cX11_rainsIn 0 = .ok (.aload_n 0, 1) := by decide +kernel
theorem dX11_rainsIn_1 : decode cX11_rainsIn 1 = .ok (.iload_n 1, 1) := by decide +kernel
theorem dX11_rainsIn_2 : decode cX11_rainsIn 2 = .ok (.invokevirtual 420, 3) := by decide +kernel
theorem dX11_rainsIn_5 : decode cX11_rainsIn 5 = .ok (.istore_n 2, 1) := by decide +kernel
theorem dX11_rainsIn_6 : decode cX11_rainsIn 6 = .ok (.iload_n 2, 1) := by decide +kernel
theorem dX11_rainsIn_7 : decode cX11_rainsIn 7 = .ok (.aload_n 0, 1) := by decide +kernel
theorem dX11_rainsIn_8 : decode cX11_rainsIn 8 = .ok (.getfield 338, 3) := by decide +kernel
theorem dX11_rainsIn_11 : decode cX11_rainsIn 11 = .ok (.getfield 219, 3) := by decide +kernel
theorem dX11_rainsIn_14 : decode cX11_rainsIn 14 = .ok (.if_icmp .ge 19, 3) := by decide +kernel
theorem dX11_rainsIn_17 : decode cX11_rainsIn 17 = .ok (.aload_n 0, 1) := by decide +kernel
theorem dX11_rainsIn_18 : decode cX11_rainsIn 18 = .ok (.getfield 475, 3) := by decide +kernel
theorem dX11_rainsIn_21 : decode cX11_rainsIn 21 = .ok (.iload_n 2, 1) := by decide +kernel
theorem dX11_rainsIn_22 : decode cX11_rainsIn 22 = .ok (.ishr, 1) := by decide +kernel
theorem dX11_rainsIn_23 : decode cX11_rainsIn 23 = .ok (.iconst 1, 1) := by decide +kernel
theorem dX11_rainsIn_24 : decode cX11_rainsIn 24 = .ok (.iand, 1) := by decide +kernel
theorem dX11_rainsIn_25 : decode cX11_rainsIn 25 = .ok (.iconst 1, 1) := by decide +kernel
theorem dX11_rainsIn_26 : decode cX11_rainsIn 26 = .ok (.if_icmp .ne 7, 3) := by decide +kernel
theorem dX11_rainsIn_29 : decode cX11_rainsIn 29 = .ok (.iconst 1, 1) := by decide +kernel
theorem dX11_rainsIn_30 : decode cX11_rainsIn 30 = .ok (.goto 4, 3) := by decide +kernel
theorem dX11_rainsIn_33 : decode cX11_rainsIn 33 = .ok (.iconst 0, 1) := by decide +kernel
theorem dX11_rainsIn_34 : decode cX11_rainsIn 34 = .ok (.ireturn, 1) := by decide +kernel
theorem dX11_go_0 : decode cX11_go 0 = .ok (.aload_n 0, 1) := by decide +kernel
theorem dX11_go_1 : decode cX11_go 1 = .ok (.iconst 0, 1) := by decide +kernel
theorem dX11_go_2 : decode cX11_go 2 = .ok (.putfield 40, 3) := by decide +kernel
theorem dX11_go_5 : decode cX11_go 5 = .ok (.aload_n 0, 1) := by decide +kernel
theorem dX11_go_6 : decode cX11_go 6 = .ok (.invokevirtual 484, 3) := by decide +kernel
theorem dX11_go_9 : decode cX11_go 9 = .ok (.ifCond .eq 20, 3) := by decide +kernel
theorem dX11_go_12 : decode cX11_go 12 = .ok (.aload_n 0, 1) := by decide +kernel
theorem dX11_go_13 : decode cX11_go 13 = .ok (.iload_n 1, 1) := by decide +kernel
theorem dX11_go_14 : decode cX11_go 14 = .ok (.invokevirtual 349, 3) := by decide +kernel
theorem dX11_go_17 : decode cX11_go 17 = .ok (.ifCond .eq 12, 3) := by decide +kernel
theorem dX11_go_20 : decode cX11_go 20 = .ok (.iload_n 2, 1) := by decide +kernel
theorem dX11_go_21 : decode cX11_go 21 = .ok (.iconst 0, 1) := by decide +kernel
theorem dX11_go_22 : decode cX11_go 22 = .ok (.iconst 1, 1) := by decide +kernel
theorem dX11_go_23 : decode cX11_go 23 = .ok (.invokestatic 118, 3) := by decide +kernel
theorem dX11_go_26 : decode cX11_go 26 = .ok (.ifCond .ne 9, 3) := by decide +kernel
theorem dX11_go_29 : decode cX11_go 29 = .ok (.aload_n 0, 1) := by decide +kernel
theorem dX11_go_30 : decode cX11_go 30 = .ok (.iconst 1, 1) := by decide +kernel
theorem dX11_go_31 : decode cX11_go 31 = .ok (.invokevirtual 46, 3) := by decide +kernel
theorem dX11_go_34 : decode cX11_go 34 = .ok (.ireturn, 1) := by decide +kernel
theorem dX11_go_35 : decode cX11_go 35 = .ok (.aload_n 0, 1) := by decide +kernel
theorem dX11_go_36 : decode cX11_go 36 = .ok (.aload_n 0, 1) := by decide +kernel
theorem dX11_go_37 : decode cX11_go 37 = .ok (.getfield 28, 3) := by decide +kernel
theorem dX11_go_40 : decode cX11_go 40 = .ok (.iload_n 3, 1) := by decide +kernel
theorem dX11_go_41 : decode cX11_go 41 = .ok (.invokevirtual 355, 3) := by decide +kernel
theorem dX11_go_44 : decode cX11_go 44 = .ok (.ifCond .ne 9, 3) := by decide +kernel
theorem dX11_go_47 : decode cX11_go 47 = .ok (.aload_n 0, 1) := by decide +kernel
theorem dX11_go_48 : decode cX11_go 48 = .ok (.iconst 2, 1) := by decide +kernel
theorem dX11_go_49 : decode cX11_go 49 = .ok (.invokevirtual 46, 3) := by decide +kernel
theorem dX11_go_52 : decode cX11_go 52 = .ok (.ireturn, 1) := by decide +kernel
theorem dX11_go_53 : decode cX11_go 53 = .ok (.aload_n 0, 1) := by decide +kernel
theorem dX11_go_54 : decode cX11_go 54 = .ok (.getfield 338, 3) := by decide +kernel
theorem dX11_go_57 : decode cX11_go 57 = .ok (.iload_n 1, 1) := by decide +kernel
theorem dX11_go_58 : decode cX11_go 58 = .ok (.iload_n 2, 1) := by decide +kernel
theorem dX11_go_59 : decode cX11_go 59 = .ok (.invokevirtual 436, 3) := by decide +kernel
theorem dX11_go_62 : decode cX11_go 62 = .ok (.i2l, 1) := by decide +kernel
theorem dX11_go_63 : decode cX11_go 63 = .ok (.aload_n 0, 1) := by decide +kernel
theorem dX11_go_64 : decode cX11_go 64 = .ok (.getfield 31, 3) := by decide +kernel
theorem dX11_go_67 : decode cX11_go 67 = .ok (.iconst 0, 1) := by decide +kernel
theorem dX11_go_68 : decode cX11_go 68 = .ok (.laload, 1) := by decide +kernel
theorem dX11_go_69 : decode cX11_go 69 = .ok (.lcmp, 1) := by decide +kernel
theorem dX11_go_70 : decode cX11_go 70 = .ok (.ifCond .eq 9, 3) := by decide +kernel
theorem dX11_go_73 : decode cX11_go 73 = .ok (.aload_n 0, 1) := by decide +kernel
theorem dX11_go_74 : decode cX11_go 74 = .ok (.iconst 5, 1) := by decide +kernel
theorem dX11_go_75 : decode cX11_go 75 = .ok (.invokevirtual 46, 3) := by decide +kernel
theorem dX11_go_78 : decode cX11_go 78 = .ok (.ireturn, 1) := by decide +kernel
theorem dX11_go_79 : decode cX11_go 79 = .ok (.aload_n 0, 1) := by decide +kernel
theorem dX11_go_80 : decode cX11_go 80 = .ok (.getfield 31, 3) := by decide +kernel
theorem dX11_go_83 : decode cX11_go 83 = .ok (.iconst 1, 1) := by decide +kernel
theorem dX11_go_84 : decode cX11_go 84 = .ok (.laload, 1) := by decide +kernel
theorem dX11_go_85 : decode cX11_go 85 = .ok (.l2i, 1) := by decide +kernel
theorem dX11_go_86 : decode cX11_go 86 = .ok (.istore 4, 2) := by decide +kernel
theorem dX11_go_88 : decode cX11_go 88 = .ok (.iload 4, 2) := by decide +kernel
theorem dX11_go_90 : decode cX11_go 90 = .ok (.aload_n 0, 1) := by decide +kernel
theorem dX11_go_91 : decode cX11_go 91 = .ok (.getfield 338, 3) := by decide +kernel
theorem dX11_go_94 : decode cX11_go 94 = .ok (.iload_n 1, 1) := by decide +kernel
theorem dX11_go_95 : decode cX11_go 95 = .ok (.iload_n 3, 1) := by decide +kernel
theorem dX11_go_96 : decode cX11_go 96 = .ok (.invokevirtual 399, 3) := by decide +kernel
theorem dX11_go_99 : decode cX11_go 99 = .ok (.iadd, 1) := by decide +kernel
theorem dX11_go_100 : decode cX11_go 100 = .ok (.sipush 999, 3) := by decide +kernel
theorem dX11_go_103 : decode cX11_go 103 = .ok (.if_icmp .le 9, 3) := by decide +kernel
theorem dX11_go_106 : decode cX11_go 106 = .ok (.aload_n 0, 1) := by decide +kernel
theorem dX11_go_107 : decode cX11_go 107 = .ok (.iconst 3, 1) := by decide +kernel
theorem dX11_go_108 : decode cX11_go 108 = .ok (.invokevirtual 46, 3) := by decide +kernel
theorem dX11_go_111 : decode cX11_go 111 = .ok (.ireturn, 1) := by decide +kernel
theorem dX11_go_112 : decode cX11_go 112 = .ok (.aload_n 0, 1) := by decide +kernel
theorem dX11_go_113 : decode cX11_go 113 = .ok (.invokevirtual 487, 3) := by decide +kernel
theorem dX11_go_116 : decode cX11_go 116 = .ok (.iconst 0, 1) := by decide +kernel
theorem dX11_go_117 : decode cX11_go 117 = .ok (.istore 5, 2) := by decide +kernel
theorem dX11_go_119 : decode cX11_go 119 = .ok (.iload 5, 2) := by decide +kernel
theorem dX11_go_121 : decode cX11_go 121 = .ok (.iconst 5, 1) := by decide +kernel
theorem dX11_go_122 : decode cX11_go 122 = .ok (.if_icmp .ge 49, 3) := by decide +kernel
theorem dX11_go_125 : decode cX11_go 125 = .ok (.aload_n 0, 1) := by decide +kernel
theorem dX11_go_126 : decode cX11_go 126 = .ok (.iload 4, 2) := by decide +kernel
theorem dX11_go_128 : decode cX11_go 128 = .ok (.invokevirtual 490, 3) := by decide +kernel
theorem dX11_go_131 : decode cX11_go 131 = .ok (.ifCond .eq 40, 3) := by decide +kernel
theorem dX11_go_134 : decode cX11_go 134 = .ok (.aload_n 0, 1) := by decide +kernel
theorem dX11_go_135 : decode cX11_go 135 = .ok (.getfield 31, 3) := by decide +kernel
theorem dX11_go_138 : decode cX11_go 138 = .ok (.iconst 2, 1) := by decide +kernel
theorem dX11_go_139 : decode cX11_go 139 = .ok (.iload 5, 2) := by decide +kernel
theorem dX11_go_141 : decode cX11_go 141 = .ok (.iadd, 1) := by decide +kernel
theorem dX11_go_142 : decode cX11_go 142 = .ok (.dup2, 1) := by decide +kernel
theorem dX11_go_143 : decode cX11_go 143 = .ok (.laload, 1) := by decide +kernel
theorem dX11_go_144 : decode cX11_go 144 = .ok (.aload_n 0, 1) := by decide +kernel
theorem dX11_go_145 : decode cX11_go 145 = .ok (.aload_n 0, 1) := by decide +kernel
theorem dX11_go_146 : decode cX11_go 146 = .ok (.getfield 28, 3) := by decide +kernel
theorem dX11_go_149 : decode cX11_go 149 = .ok (.iload_n 1, 1) := by decide +kernel
theorem dX11_go_150 : decode cX11_go 150 = .ok (.iload_n 2, 1) := by decide +kernel
theorem dX11_go_151 : decode cX11_go 151 = .ok (.aload_n 0, 1) := by decide +kernel
theorem dX11_go_152 : decode cX11_go 152 = .ok (.iload 4, 2) := by decide +kernel
theorem dX11_go_154 : decode cX11_go 154 = .ok (.invokevirtual 420, 3) := by decide +kernel
theorem dX11_go_157 : decode cX11_go 157 = .ok (.iload_n 3, 1) := by decide +kernel
theorem dX11_go_158 : decode cX11_go 158 = .ok (.iload 5, 2) := by decide +kernel
theorem dX11_go_160 : decode cX11_go 160 = .ok (.invokevirtual 379, 3) := by decide +kernel
theorem dX11_go_163 : decode cX11_go 163 = .ok (.ladd, 1) := by decide +kernel
theorem dX11_go_164 : decode cX11_go 164 = .ok (.lastore, 1) := by decide +kernel
theorem dX11_go_165 : decode cX11_go 165 = .ok (.iinc 5 1, 3) := by decide +kernel
theorem dX11_go_168 : decode cX11_go 168 = .ok (.goto (-49), 3) := by decide +kernel
theorem dX11_go_171 : decode cX11_go 171 = .ok (.aload_n 0, 1) := by decide +kernel
theorem dX11_go_172 : decode cX11_go 172 = .ok (.getfield 31, 3) := by decide +kernel
theorem dX11_go_175 : decode cX11_go 175 = .ok (.iconst 0, 1) := by decide +kernel
theorem dX11_go_176 : decode cX11_go 176 = .ok (.aload_n 0, 1) := by decide +kernel
theorem dX11_go_177 : decode cX11_go 177 = .ok (.getfield 338, 3) := by decide +kernel
theorem dX11_go_180 : decode cX11_go 180 = .ok (.iload_n 1, 1) := by decide +kernel
theorem dX11_go_181 : decode cX11_go 181 = .ok (.iload_n 2, 1) := by decide +kernel
theorem dX11_go_182 : decode cX11_go 182 = .ok (.invokevirtual 438, 3) := by decide +kernel
theorem dX11_go_185 : decode cX11_go 185 = .ok (.i2l, 1) := by decide +kernel
theorem dX11_go_186 : decode cX11_go 186 = .ok (.lastore, 1) := by decide +kernel
theorem dX11_go_187 : decode cX11_go 187 = .ok (.aload_n 0, 1) := by decide +kernel
theorem dX11_go_188 : decode cX11_go 188 = .ok (.getfield 31, 3) := by decide +kernel
theorem dX11_go_191 : decode cX11_go 191 = .ok (.iconst 1, 1) := by decide +kernel
theorem dX11_go_192 : decode cX11_go 192 = .ok (.iload 4, 2) := by decide +kernel
theorem dX11_go_194 : decode cX11_go 194 = .ok (.aload_n 0, 1) := by decide +kernel
theorem dX11_go_195 : decode cX11_go 195 = .ok (.getfield 338, 3) := by decide +kernel
theorem dX11_go_198 : decode cX11_go 198 = .ok (.iload_n 1, 1) := by decide +kernel
theorem dX11_go_199 : decode cX11_go 199 = .ok (.iload_n 3, 1) := by decide +kernel
theorem dX11_go_200 : decode cX11_go 200 = .ok (.invokevirtual 399, 3) := by decide +kernel
theorem dX11_go_203 : decode cX11_go 203 = .ok (.iadd, 1) := by decide +kernel
theorem dX11_go_204 : decode cX11_go 204 = .ok (.i2l, 1) := by decide +kernel
theorem dX11_go_205 : decode cX11_go 205 = .ok (.lastore, 1) := by decide +kernel
theorem dX11_go_206 : decode cX11_go 206 = .ok (.aload_n 0, 1) := by decide +kernel
theorem dX11_go_207 : decode cX11_go 207 = .ok (.aload_n 0, 1) := by decide +kernel
theorem dX11_go_208 : decode cX11_go 208 = .ok (.getfield 31, 3) := by decide +kernel
theorem dX11_go_211 : decode cX11_go 211 = .ok (.iconst 1, 1) := by decide +kernel
theorem dX11_go_212 : decode cX11_go 212 = .ok (.laload, 1) := by decide +kernel
theorem dX11_go_213 : decode cX11_go 213 = .ok (.l2i, 1) := by decide +kernel
theorem dX11_go_214 : decode cX11_go 214 = .ok (.invokevirtual 50, 3) := by decide +kernel
theorem dX11_go_217 : decode cX11_go 217 = .ok (.ireturn, 1) := by decide +kernel
theorem dX11_stay_0 : decode cX11_stay 0 = .ok (.aload_n 0, 1) := by decide +kernel
theorem dX11_stay_1 : decode cX11_stay 1 = .ok (.iconst 0, 1) := by decide +kernel
theorem dX11_stay_2 : decode cX11_stay 2 = .ok (.putfield 40, 3) := by decide +kernel
theorem dX11_stay_5 : decode cX11_stay 5 = .ok (.aload_n 0, 1) := by decide +kernel
theorem dX11_stay_6 : decode cX11_stay 6 = .ok (.invokevirtual 484, 3) := by decide +kernel
theorem dX11_stay_9 : decode cX11_stay 9 = .ok (.ifCond .ne 9, 3) := by decide +kernel
theorem dX11_stay_12 : decode cX11_stay 12 = .ok (.aload_n 0, 1) := by decide +kernel
theorem dX11_stay_13 : decode cX11_stay 13 = .ok (.iconst 1, 1) := by decide +kernel
theorem dX11_stay_14 : decode cX11_stay 14 = .ok (.invokevirtual 493, 3) := by decide +kernel
theorem dX11_stay_17 : decode cX11_stay 17 = .ok (.ireturn, 1) := by decide +kernel
theorem dX11_stay_18 : decode cX11_stay 18 = .ok (.iload_n 1, 1) := by decide +kernel
theorem dX11_stay_19 : decode cX11_stay 19 = .ok (.iconst 1, 1) := by decide +kernel
theorem dX11_stay_20 : decode cX11_stay 20 = .ok (.bipush 60, 2) := by decide +kernel
theorem dX11_stay_22 : decode cX11_stay 22 = .ok (.invokestatic 118, 3) := by decide +kernel
theorem dX11_stay_25 : decode cX11_stay 25 = .ok (.ifCond .ne 9, 3) := by decide +kernel
theorem dX11_stay_28 : decode cX11_stay 28 = .ok (.aload_n 0, 1) := by decide +kernel
theorem dX11_stay_29 : decode cX11_stay 29 = .ok (.iconst 2, 1) := by decide +kernel
theorem dX11_stay_30 : decode cX11_stay 30 = .ok (.invokevirtual 493, 3) := by decide +kernel
theorem dX11_stay_33 : decode cX11_stay 33 = .ok (.ireturn, 1) := by decide +kernel
theorem dX11_stay_34 : decode cX11_stay 34 = .ok (.aload_n 0, 1) := by decide +kernel
theorem dX11_stay_35 : decode cX11_stay 35 = .ok (.getfield 31, 3) := by decide +kernel
theorem dX11_stay_38 : decode cX11_stay 38 = .ok (.iconst 0, 1) := by decide +kernel
theorem dX11_stay_39 : decode cX11_stay 39 = .ok (.laload, 1) := by decide +kernel
theorem dX11_stay_40 : decode cX11_stay 40 = .ok (.l2i, 1) := by decide +kernel
theorem dX11_stay_41 : decode cX11_stay 41 = .ok (.istore_n 2, 1) := by decide +kernel
theorem dX11_stay_42 : decode cX11_stay 42 = .ok (.aload_n 0, 1) := by decide +kernel
theorem dX11_stay_43 : decode cX11_stay 43 = .ok (.iload_n 2, 1) := by decide +kernel
theorem dX11_stay_44 : decode cX11_stay 44 = .ok (.invokevirtual 448, 3) := by decide +kernel
theorem dX11_stay_47 : decode cX11_stay 47 = .ok (.ifCond .ne 9, 3) := by decide +kernel
theorem dX11_stay_50 : decode cX11_stay 50 = .ok (.aload_n 0, 1) := by decide +kernel
theorem dX11_stay_51 : decode cX11_stay 51 = .ok (.iconst 5, 1) := by decide +kernel
theorem dX11_stay_52 : decode cX11_stay 52 = .ok (.invokevirtual 493, 3) := by decide +kernel
theorem dX11_stay_55 : decode cX11_stay 55 = .ok (.ireturn, 1) := by decide +kernel
theorem dX11_stay_56 : decode cX11_stay 56 = .ok (.aload_n 0, 1) := by decide +kernel
theorem dX11_stay_57 : decode cX11_stay 57 = .ok (.getfield 31, 3) := by decide +kernel
theorem dX11_stay_60 : decode cX11_stay 60 = .ok (.iconst 1, 1) := by decide +kernel
theorem dX11_stay_61 : decode cX11_stay 61 = .ok (.laload, 1) := by decide +kernel
theorem dX11_stay_62 : decode cX11_stay 62 = .ok (.iload_n 1, 1) := by decide +kernel
theorem dX11_stay_63 : decode cX11_stay 63 = .ok (.i2l, 1) := by decide +kernel
theorem dX11_stay_64 : decode cX11_stay 64 = .ok (.ladd, 1) := by decide +kernel
theorem dX11_stay_65 : decode cX11_stay 65 = .ok (.ldc2_w 496, 3) := by decide +kernel
theorem dX11_stay_68 : decode cX11_stay 68 = .ok (.lcmp, 1) := by decide +kernel
theorem dX11_stay_69 : decode cX11_stay 69 = .ok (.ifCond .le 9, 3) := by decide +kernel
theorem dX11_stay_72 : decode cX11_stay 72 = .ok (.aload_n 0, 1) := by decide +kernel
theorem dX11_stay_73 : decode cX11_stay 73 = .ok (.iconst 3, 1) := by decide +kernel
theorem dX11_stay_74 : decode cX11_stay 74 = .ok (.invokevirtual 493, 3) := by decide +kernel
theorem dX11_stay_77 : decode cX11_stay 77 = .ok (.ireturn, 1) := by decide +kernel
theorem dX11_stay_78 : decode cX11_stay 78 = .ok (.aload_n 0, 1) := by decide +kernel
theorem dX11_stay_79 : decode cX11_stay 79 = .ok (.invokevirtual 487, 3) := by decide +kernel
theorem dX11_stay_82 : decode cX11_stay 82 = .ok (.iconst 0, 1) := by decide +kernel
theorem dX11_stay_83 : decode cX11_stay 83 = .ok (.istore_n 3, 1) := by decide +kernel
theorem dX11_stay_84 : decode cX11_stay 84 = .ok (.iload_n 3, 1) := by decide +kernel
theorem dX11_stay_85 : decode cX11_stay 85 = .ok (.iload_n 1, 1) := by decide +kernel
theorem dX11_stay_86 : decode cX11_stay 86 = .ok (.if_icmp .ge 63, 3) := by decide +kernel
theorem dX11_stay_89 : decode cX11_stay 89 = .ok (.aload_n 0, 1) := by decide +kernel
theorem dX11_stay_90 : decode cX11_stay 90 = .ok (.getfield 338, 3) := by decide +kernel
theorem dX11_stay_93 : decode cX11_stay 93 = .ok (.getfield 258, 3) := by decide +kernel
theorem dX11_stay_96 : decode cX11_stay 96 = .ok (.iload_n 2, 1) := by decide +kernel
theorem dX11_stay_97 : decode cX11_stay 97 = .ok (.baload, 1) := by decide +kernel
theorem dX11_stay_98 : decode cX11_stay 98 = .ok (.ifCond .ne 35, 3) := by decide +kernel
theorem dX11_stay_101 : decode cX11_stay 101 = .ok (.aload_n 0, 1) := by decide +kernel
theorem dX11_stay_102 : decode cX11_stay 102 = .ok (.aload_n 0, 1) := by decide +kernel
theorem dX11_stay_103 : decode cX11_stay 103 = .ok (.getfield 31, 3) := by decide +kernel
theorem dX11_stay_106 : decode cX11_stay 106 = .ok (.iconst 1, 1) := by decide +kernel
theorem dX11_stay_107 : decode cX11_stay 107 = .ok (.laload, 1) := by decide +kernel
theorem dX11_stay_108 : decode cX11_stay 108 = .ok (.l2i, 1) := by decide +kernel
theorem dX11_stay_109 : decode cX11_stay 109 = .ok (.invokevirtual 490, 3) := by decide +kernel
theorem dX11_stay_112 : decode cX11_stay 112 = .ok (.ifCond .eq 21, 3) := by decide +kernel
theorem dX11_stay_115 : decode cX11_stay 115 = .ok (.aload_n 0, 1) := by decide +kernel
theorem dX11_stay_116 : decode cX11_stay 116 = .ok (.getfield 31, 3) := by decide +kernel
theorem dX11_stay_119 : decode cX11_stay 119 = .ok (.iconst 2, 1) := by decide +kernel
theorem dX11_stay_120 : decode cX11_stay 120 = .ok (.dup2, 1) := by decide +kernel
theorem dX11_stay_121 : decode cX11_stay 121 = .ok (.laload, 1) := by decide +kernel
theorem dX11_stay_122 : decode cX11_stay 122 = .ok (.aload_n 0, 1) := by decide +kernel
theorem dX11_stay_123 : decode cX11_stay 123 = .ok (.aload_n 0, 1) := by decide +kernel
theorem dX11_stay_124 : decode cX11_stay 124 = .ok (.getfield 28, 3) := by decide +kernel
theorem dX11_stay_127 : decode cX11_stay 127 = .ok (.iload_n 2, 1) := by decide +kernel
theorem dX11_stay_128 : decode cX11_stay 128 = .ok (.invokevirtual 423, 3) := by decide +kernel
theorem dX11_stay_131 : decode cX11_stay 131 = .ok (.ladd, 1) := by decide +kernel
theorem dX11_stay_132 : decode cX11_stay 132 = .ok (.lastore, 1) := by decide +kernel
theorem dX11_stay_133 : decode cX11_stay 133 = .ok (.aload_n 0, 1) := by decide +kernel
theorem dX11_stay_134 : decode cX11_stay 134 = .ok (.getfield 31, 3) := by decide +kernel
theorem dX11_stay_137 : decode cX11_stay 137 = .ok (.iconst 1, 1) := by decide +kernel
theorem dX11_stay_138 : decode cX11_stay 138 = .ok (.dup2, 1) := by decide +kernel
theorem dX11_stay_139 : decode cX11_stay 139 = .ok (.laload, 1) := by decide +kernel
theorem dX11_stay_140 : decode cX11_stay 140 = .ok (.lconst 1, 1) := by decide +kernel
theorem dX11_stay_141 : decode cX11_stay 141 = .ok (.ladd, 1) := by decide +kernel
theorem dX11_stay_142 : decode cX11_stay 142 = .ok (.lastore, 1) := by decide +kernel
theorem dX11_stay_143 : decode cX11_stay 143 = .ok (.iinc 3 1, 3) := by decide +kernel
theorem dX11_stay_146 : decode cX11_stay 146 = .ok (.goto (-62), 3) := by decide +kernel
theorem dX11_stay_149 : decode cX11_stay 149 = .ok (.aload_n 0, 1) := by decide +kernel
theorem dX11_stay_150 : decode cX11_stay 150 = .ok (.invokevirtual 498, 3) := by decide +kernel
theorem dX11_stay_153 : decode cX11_stay 153 = .ok (.ireturn, 1) := by decide +kernel
theorem dX11_got_0 : decode cX11_got 0 = .ok (.aload_n 0, 1) := by decide +kernel
theorem dX11_got_1 : decode cX11_got 1 = .ok (.iconst 0, 1) := by decide +kernel
theorem dX11_got_2 : decode cX11_got 2 = .ok (.putfield 40, 3) := by decide +kernel
theorem dX11_got_5 : decode cX11_got 5 = .ok (.aload_n 0, 1) := by decide +kernel
theorem dX11_got_6 : decode cX11_got 6 = .ok (.invokevirtual 484, 3) := by decide +kernel
theorem dX11_got_9 : decode cX11_got 9 = .ok (.ifCond .eq 31, 3) := by decide +kernel
theorem dX11_got_12 : decode cX11_got 12 = .ok (.iload_n 1, 1) := by decide +kernel
theorem dX11_got_13 : decode cX11_got 13 = .ok (.iconst 0, 1) := by decide +kernel
theorem dX11_got_14 : decode cX11_got 14 = .ok (.iconst 4, 1) := by decide +kernel
theorem dX11_got_15 : decode cX11_got 15 = .ok (.invokestatic 118, 3) := by decide +kernel
theorem dX11_got_18 : decode cX11_got 18 = .ok (.ifCond .eq 22, 3) := by decide +kernel
theorem dX11_got_21 : decode cX11_got 21 = .ok (.aload_n 0, 1) := by decide +kernel
theorem dX11_got_22 : decode cX11_got 22 = .ok (.aload_n 0, 1) := by decide +kernel
theorem dX11_got_23 : decode cX11_got 23 = .ok (.getfield 31, 3) := by decide +kernel
theorem dX11_got_26 : decode cX11_got 26 = .ok (.iconst 2, 1) := by decide +kernel
theorem dX11_got_27 : decode cX11_got 27 = .ok (.iload_n 1, 1) := by decide +kernel
theorem dX11_got_28 : decode cX11_got 28 = .ok (.iadd, 1) := by decide +kernel
theorem dX11_got_29 : decode cX11_got 29 = .ok (.laload, 1) := by decide +kernel
theorem dX11_got_30 : decode cX11_got 30 = .ok (.ldc2_w 387, 3) := by decide +kernel
theorem dX11_got_33 : decode cX11_got 33 = .ok (.iload_n 2, 1) := by decide +kernel
theorem dX11_got_34 : decode cX11_got 34 = .ok (.invokevirtual 389, 3) := by decide +kernel
theorem dX11_got_37 : decode cX11_got 37 = .ok (.goto 9, 3) := by decide +kernel
theorem dX11_got_40 : decode cX11_got 40 = .ok (.aload_n 0, 1) := by decide +kernel
theorem dX11_got_41 : decode cX11_got 41 = .ok (.iconst 1, 1) := by decide +kernel
theorem dX11_got_42 : decode cX11_got 42 = .ok (.invokevirtual 46, 3) := by decide +kernel
theorem dX11_got_45 : decode cX11_got 45 = .ok (.i2l, 1) := by decide +kernel
theorem dX11_got_46 : decode cX11_got 46 = .ok (.lreturn, 1) := by decide +kernel
theorem dX11_gotInAll_0 : decode cX11_gotInAll 0 = .ok (.lconst 0, 1) := by decide +kernel
theorem dX11_gotInAll_1 : decode cX11_gotInAll 1 = .ok (.lstore_n 1, 1) := by decide +kernel
theorem dX11_gotInAll_2 : decode cX11_gotInAll 2 = .ok (.iconst 0, 1) := by decide +kernel
theorem dX11_gotInAll_3 : decode cX11_gotInAll 3 = .ok (.istore_n 3, 1) := by decide +kernel
theorem dX11_gotInAll_4 : decode cX11_gotInAll 4 = .ok (.iload_n 3, 1) := by decide +kernel
theorem dX11_gotInAll_5 : decode cX11_gotInAll 5 = .ok (.iconst 5, 1) := by decide +kernel
theorem dX11_gotInAll_6 : decode cX11_gotInAll 6 = .ok (.if_icmp .ge 20, 3) := by decide +kernel
theorem dX11_gotInAll_9 : decode cX11_gotInAll 9 = .ok (.lload_n 1, 1) := by decide +kernel
theorem dX11_gotInAll_10 : decode cX11_gotInAll 10 = .ok (.aload_n 0, 1) := by decide +kernel
theorem dX11_gotInAll_11 : decode cX11_gotInAll 11 = .ok (.getfield 31, 3) := by decide +kernel
theorem dX11_gotInAll_14 : decode cX11_gotInAll 14 = .ok (.iconst 2, 1) := by decide +kernel
theorem dX11_gotInAll_15 : decode cX11_gotInAll 15 = .ok (.iload_n 3, 1) := by decide +kernel
theorem dX11_gotInAll_16 : decode cX11_gotInAll 16 = .ok (.iadd, 1) := by decide +kernel
theorem dX11_gotInAll_17 : decode cX11_gotInAll 17 = .ok (.laload, 1) := by decide +kernel
theorem dX11_gotInAll_18 : decode cX11_gotInAll 18 = .ok (.ladd, 1) := by decide +kernel
theorem dX11_gotInAll_19 : decode cX11_gotInAll 19 = .ok (.lstore_n 1, 1) := by decide +kernel
theorem dX11_gotInAll_20 : decode cX11_gotInAll 20 = .ok (.iinc 3 1, 3) := by decide +kernel
theorem dX11_gotInAll_23 : decode cX11_gotInAll 23 = .ok (.goto (-19), 3) := by decide +kernel
theorem dX11_gotInAll_26 : decode cX11_gotInAll 26 = .ok (.lload_n 1, 1) := by decide +kernel
theorem dX11_gotInAll_27 : decode cX11_gotInAll 27 = .ok (.lreturn, 1) := by decide +kernel
theorem dX11_holds_0 : decode cX11_holds 0 = .ok (.aload_n 0, 1) := by decide +kernel
theorem dX11_holds_1 : decode cX11_holds 1 = .ok (.getfield 338, 3) := by decide +kernel
theorem dX11_holds_4 : decode cX11_holds 4 = .ok (.getfield 302, 3) := by decide +kernel
theorem dX11_holds_7 : decode cX11_holds 7 = .ok (.aload_n 0, 1) := by decide +kernel
theorem dX11_holds_8 : decode cX11_holds 8 = .ok (.getfield 28, 3) := by decide +kernel
theorem dX11_holds_11 : decode cX11_holds 11 = .ok (.iaload, 1) := by decide +kernel
theorem dX11_holds_12 : decode cX11_holds 12 = .ok (.iconst 2, 1) := by decide +kernel
theorem dX11_holds_13 : decode cX11_holds 13 = .ok (.if_icmp .ne 23, 3) := by decide +kernel
theorem dX11_holds_16 : decode cX11_holds 16 = .ok (.ldc2_w 387, 3) := by decide +kernel
theorem dX11_holds_19 : decode cX11_holds 19 = .ok (.aload_n 0, 1) := by decide +kernel
theorem dX11_holds_20 : decode cX11_holds 20 = .ok (.getfield 338, 3) := by decide +kernel
theorem dX11_holds_23 : decode cX11_holds 23 = .ok (.getfield 305, 3) := by decide +kernel
theorem dX11_holds_26 : decode cX11_holds 26 = .ok (.aload_n 0, 1) := by decide +kernel
theorem dX11_holds_27 : decode cX11_holds 27 = .ok (.getfield 28, 3) := by decide +kernel
theorem dX11_holds_30 : decode cX11_holds 30 = .ok (.iaload, 1) := by decide +kernel
theorem dX11_holds_31 : decode cX11_holds 31 = .ok (.i2l, 1) := by decide +kernel
theorem dX11_holds_32 : decode cX11_holds 32 = .ok (.lmul, 1) := by decide +kernel
theorem dX11_holds_33 : decode cX11_holds 33 = .ok (.goto 4, 3) := by decide +kernel
theorem dX11_holds_36 : decode cX11_holds 36 = .ok (.lconst 0, 1) := by decide +kernel
theorem dX11_holds_37 : decode cX11_holds 37 = .ok (.lreturn, 1) := by decide +kernel
theorem dX11_wetness_0 : decode cX11_wetness 0 = .ok (.aload_n 0, 1) := by decide +kernel
theorem dX11_wetness_1 : decode cX11_wetness 1 = .ok (.iconst 0, 1) := by decide +kernel
theorem dX11_wetness_2 : decode cX11_wetness 2 = .ok (.putfield 40, 3) := by decide +kernel
theorem dX11_wetness_5 : decode cX11_wetness 5 = .ok (.aload_n 0, 1) := by decide +kernel
theorem dX11_wetness_6 : decode cX11_wetness 6 = .ok (.invokevirtual 484, 3) := by decide +kernel
theorem dX11_wetness_9 : decode cX11_wetness 9 = .ok (.ifCond .ne 10, 3) := by decide +kernel
theorem dX11_wetness_12 : decode cX11_wetness 12 = .ok (.aload_n 0, 1) := by decide +kernel
theorem dX11_wetness_13 : decode cX11_wetness 13 = .ok (.iconst 1, 1) := by decide +kernel
theorem dX11_wetness_14 : decode cX11_wetness 14 = .ok (.invokevirtual 46, 3) := by decide +kernel
theorem dX11_wetness_17 : decode cX11_wetness 17 = .ok (.i2l, 1) := by decide +kernel
theorem dX11_wetness_18 : decode cX11_wetness 18 = .ok (.lreturn, 1) := by decide +kernel
theorem dX11_wetness_19 : decode cX11_wetness 19 = .ok (.aload_n 0, 1) := by decide +kernel
theorem dX11_wetness_20 : decode cX11_wetness 20 = .ok (.invokevirtual 501, 3) := by decide +kernel
theorem dX11_wetness_23 : decode cX11_wetness 23 = .ok (.aload_n 0, 1) := by decide +kernel
theorem dX11_wetness_24 : decode cX11_wetness 24 = .ok (.invokevirtual 504, 3) := by decide +kernel
theorem dX11_wetness_27 : decode cX11_wetness 27 = .ok (.lsub, 1) := by decide +kernel
theorem dX11_wetness_28 : decode cX11_wetness 28 = .ok (.lstore_n 2, 1) := by decide +kernel
theorem dX11_wetness_29 : decode cX11_wetness 29 = .ok (.aload_n 0, 1) := by decide +kernel
theorem dX11_wetness_30 : decode cX11_wetness 30 = .ok (.lload_n 2, 1) := by decide +kernel
theorem dX11_wetness_31 : decode cX11_wetness 31 = .ok (.lconst 0, 1) := by decide +kernel
theorem dX11_wetness_32 : decode cX11_wetness 32 = .ok (.lcmp, 1) := by decide +kernel
theorem dX11_wetness_33 : decode cX11_wetness 33 = .ok (.ifCond .ge 7, 3) := by decide +kernel
theorem dX11_wetness_36 : decode cX11_wetness 36 = .ok (.lconst 0, 1) := by decide +kernel
theorem dX11_wetness_37 : decode cX11_wetness 37 = .ok (.goto 4, 3) := by decide +kernel
theorem dX11_wetness_40 : decode cX11_wetness 40 = .ok (.lload_n 2, 1) := by decide +kernel
theorem dX11_wetness_41 : decode cX11_wetness 41 = .ok (.ldc2_w 387, 3) := by decide +kernel
theorem dX11_wetness_44 : decode cX11_wetness 44 = .ok (.iload_n 1, 1) := by decide +kernel
theorem dX11_wetness_45 : decode cX11_wetness 45 = .ok (.invokevirtual 389, 3) := by decide +kernel
theorem dX11_wetness_48 : decode cX11_wetness 48 = .ok (.lreturn, 1) := by decide +kernel
theorem dX11_soaked_0 : decode cX11_soaked 0 = .ok (.aload_n 0, 1) := by decide +kernel
theorem dX11_soaked_1 : decode cX11_soaked 1 = .ok (.iconst 0, 1) := by decide +kernel
theorem dX11_soaked_2 : decode cX11_soaked 2 = .ok (.putfield 40, 3) := by decide +kernel
theorem dX11_soaked_5 : decode cX11_soaked 5 = .ok (.aload_n 0, 1) := by decide +kernel
theorem dX11_soaked_6 : decode cX11_soaked 6 = .ok (.invokevirtual 484, 3) := by decide +kernel
theorem dX11_soaked_9 : decode cX11_soaked 9 = .ok (.ifCond .ne 9, 3) := by decide +kernel
theorem dX11_soaked_12 : decode cX11_soaked 12 = .ok (.aload_n 0, 1) := by decide +kernel
theorem dX11_soaked_13 : decode cX11_soaked 13 = .ok (.iconst 1, 1) := by decide +kernel
theorem dX11_soaked_14 : decode cX11_soaked 14 = .ok (.invokevirtual 46, 3) := by decide +kernel
theorem dX11_soaked_17 : decode cX11_soaked 17 = .ok (.ireturn, 1) := by decide +kernel
theorem dX11_soaked_18 : decode cX11_soaked 18 = .ok (.aload_n 0, 1) := by decide +kernel
theorem dX11_soaked_19 : decode cX11_soaked 19 = .ok (.aload_n 0, 1) := by decide +kernel
theorem dX11_soaked_20 : decode cX11_soaked 20 = .ok (.getfield 338, 3) := by decide +kernel
theorem dX11_soaked_23 : decode cX11_soaked 23 = .ok (.getfield 302, 3) := by decide +kernel
theorem dX11_soaked_26 : decode cX11_soaked 26 = .ok (.aload_n 0, 1) := by decide +kernel
theorem dX11_soaked_27 : decode cX11_soaked 27 = .ok (.getfield 28, 3) := by decide +kernel
theorem dX11_soaked_30 : decode cX11_soaked 30 = .ok (.iaload, 1) := by decide +kernel
theorem dX11_soaked_31 : decode cX11_soaked 31 = .ok (.iconst 2, 1) := by decide +kernel
theorem dX11_soaked_32 : decode cX11_soaked 32 = .ok (.if_icmp .eq 8, 3) := by decide +kernel
theorem dX11_soaked_35 : decode cX11_soaked 35 = .ok (.bipush (-2), 2) := by decide +kernel
theorem dX11_soaked_37 : decode cX11_soaked 37 = .ok (.goto 20, 3) := by decide +kernel
theorem dX11_soaked_40 : decode cX11_soaked 40 = .ok (.aload_n 0, 1) := by decide +kernel
theorem dX11_soaked_41 : decode cX11_soaked 41 = .ok (.invokevirtual 501, 3) := by decide +kernel
theorem dX11_soaked_44 : decode cX11_soaked 44 = .ok (.aload_n 0, 1) := by decide +kernel
theorem dX11_soaked_45 : decode cX11_soaked 45 = .ok (.invokevirtual 504, 3) := by decide +kernel
theorem dX11_soaked_48 : decode cX11_soaked 48 = .ok (.lcmp, 1) := by decide +kernel
theorem dX11_soaked_49 : decode cX11_soaked 49 = .ok (.ifCond .le 7, 3) := by decide +kernel
theorem dX11_soaked_52 : decode cX11_soaked 52 = .ok (.iconst 1, 1) := by decide +kernel
theorem dX11_soaked_53 : decode cX11_soaked 53 = .ok (.goto 4, 3) := by decide +kernel
theorem dX11_soaked_56 : decode cX11_soaked 56 = .ok (.iconst 0, 1) := by decide +kernel
theorem dX11_soaked_57 : decode cX11_soaked 57 = .ok (.invokevirtual 50, 3) := by decide +kernel
theorem dX11_soaked_60 : decode cX11_soaked 60 = .ok (.ireturn, 1) := by decide +kernel
theorem dX11_undo_0 : decode cX11_undo 0 = .ok (.aload_n 0, 1) := by decide +kernel
theorem dX11_undo_1 : decode cX11_undo 1 = .ok (.iconst 0, 1) := by decide +kernel
theorem dX11_undo_2 : decode cX11_undo 2 = .ok (.putfield 40, 3) := by decide +kernel
theorem dX11_undo_5 : decode cX11_undo 5 = .ok (.aload_n 0, 1) := by decide +kernel
theorem dX11_undo_6 : decode cX11_undo 6 = .ok (.invokevirtual 484, 3) := by decide +kernel
theorem dX11_undo_9 : decode cX11_undo 9 = .ok (.ifCond .eq 10, 3) := by decide +kernel
theorem dX11_undo_12 : decode cX11_undo 12 = .ok (.aload_n 0, 1) := by decide +kernel
theorem dX11_undo_13 : decode cX11_undo 13 = .ok (.getfield 340, 3) := by decide +kernel
theorem dX11_undo_16 : decode cX11_undo 16 = .ok (.ifCond .ne 10, 3) := by decide +kernel
theorem dX11_undo_19 : decode cX11_undo 19 = .ok (.aload_n 0, 1) := by decide +kernel
theorem dX11_undo_20 : decode cX11_undo 20 = .ok (.bipush 6, 2) := by decide +kernel
theorem dX11_undo_22 : decode cX11_undo 22 = .ok (.invokevirtual 493, 3) := by decide +kernel
theorem dX11_undo_25 : decode cX11_undo 25 = .ok (.ireturn, 1) := by decide +kernel
theorem dX11_undo_26 : decode cX11_undo 26 = .ok (.aload_n 0, 1) := by decide +kernel
theorem dX11_undo_27 : decode cX11_undo 27 = .ok (.dup, 1) := by decide +kernel
theorem dX11_undo_28 : decode cX11_undo 28 = .ok (.getfield 340, 3) := by decide +kernel
theorem dX11_undo_31 : decode cX11_undo 31 = .ok (.iconst 1, 1) := by decide +kernel
theorem dX11_undo_32 : decode cX11_undo 32 = .ok (.isub, 1) := by decide +kernel
theorem dX11_undo_33 : decode cX11_undo 33 = .ok (.putfield 340, 3) := by decide +kernel
theorem dX11_undo_36 : decode cX11_undo 36 = .ok (.iconst 0, 1) := by decide +kernel
theorem dX11_undo_37 : decode cX11_undo 37 = .ok (.istore_n 1, 1) := by decide +kernel
theorem dX11_undo_38 : decode cX11_undo 38 = .ok (.iload_n 1, 1) := by decide +kernel
theorem dX11_undo_39 : decode cX11_undo 39 = .ok (.bipush 7, 2) := by decide +kernel
theorem dX11_undo_41 : decode cX11_undo 41 = .ok (.if_icmp .ge 29, 3) := by decide +kernel
theorem dX11_undo_44 : decode cX11_undo 44 = .ok (.aload_n 0, 1) := by decide +kernel
theorem dX11_undo_45 : decode cX11_undo 45 = .ok (.getfield 31, 3) := by decide +kernel
theorem dX11_undo_48 : decode cX11_undo 48 = .ok (.iload_n 1, 1) := by decide +kernel
theorem dX11_undo_49 : decode cX11_undo 49 = .ok (.aload_n 0, 1) := by decide +kernel
theorem dX11_undo_50 : decode cX11_undo 50 = .ok (.getfield 34, 3) := by decide +kernel
theorem dX11_undo_53 : decode cX11_undo 53 = .ok (.bipush 7, 2) := by decide +kernel
theorem dX11_undo_55 : decode cX11_undo 55 = .ok (.aload_n 0, 1) := by decide +kernel
theorem dX11_undo_56 : decode cX11_undo 56 = .ok (.getfield 340, 3) := by decide +kernel
theorem dX11_undo_59 : decode cX11_undo 59 = .ok (.imul, 1) := by decide +kernel
theorem dX11_undo_60 : decode cX11_undo 60 = .ok (.iload_n 1, 1) := by decide +kernel
theorem dX11_undo_61 : decode cX11_undo 61 = .ok (.iadd, 1) := by decide +kernel
theorem dX11_undo_62 : decode cX11_undo 62 = .ok (.laload, 1) := by decide +kernel
theorem dX11_undo_63 : decode cX11_undo 63 = .ok (.lastore, 1) := by decide +kernel
theorem dX11_undo_64 : decode cX11_undo 64 = .ok (.iinc 1 1, 3) := by decide +kernel
theorem dX11_undo_67 : decode cX11_undo 67 = .ok (.goto (-29), 3) := by decide +kernel
theorem dX11_undo_70 : decode cX11_undo 70 = .ok (.aload_n 0, 1) := by decide +kernel
theorem dX11_undo_71 : decode cX11_undo 71 = .ok (.invokevirtual 498, 3) := by decide +kernel
theorem dX11_undo_74 : decode cX11_undo 74 = .ok (.ireturn, 1) := by decide +kernel
theorem dX11_mark_0 : decode cX11_mark 0 = .ok (.aload_n 0, 1) := by decide +kernel
theorem dX11_mark_1 : decode cX11_mark 1 = .ok (.iconst 0, 1) := by decide +kernel
theorem dX11_mark_2 : decode cX11_mark 2 = .ok (.putfield 40, 3) := by decide +kernel
theorem dX11_mark_5 : decode cX11_mark 5 = .ok (.aload_n 0, 1) := by decide +kernel
theorem dX11_mark_6 : decode cX11_mark 6 = .ok (.invokevirtual 484, 3) := by decide +kernel
theorem dX11_mark_9 : decode cX11_mark 9 = .ok (.ifCond .ne 9, 3) := by decide +kernel
theorem dX11_mark_12 : decode cX11_mark 12 = .ok (.aload_n 0, 1) := by decide +kernel
theorem dX11_mark_13 : decode cX11_mark 13 = .ok (.iconst 1, 1) := by decide +kernel
theorem dX11_mark_14 : decode cX11_mark 14 = .ok (.invokevirtual 46, 3) := by decide +kernel
theorem dX11_mark_17 : decode cX11_mark 17 = .ok (.ireturn, 1) := by decide +kernel
theorem dX11_mark_18 : decode cX11_mark 18 = .ok (.aload_n 0, 1) := by decide +kernel
theorem dX11_mark_19 : decode cX11_mark 19 = .ok (.getfield 343, 3) := by decide +kernel
theorem dX11_mark_22 : decode cX11_mark 22 = .ok (.iconst 3, 1) := by decide +kernel
theorem dX11_mark_23 : decode cX11_mark 23 = .ok (.if_icmp .ne 9, 3) := by decide +kernel
theorem dX11_mark_26 : decode cX11_mark 26 = .ok (.aload_n 0, 1) := by decide +kernel
theorem dX11_mark_27 : decode cX11_mark 27 = .ok (.iconst 3, 1) := by decide +kernel
theorem dX11_mark_28 : decode cX11_mark 28 = .ok (.invokevirtual 46, 3) := by decide +kernel
theorem dX11_mark_31 : decode cX11_mark 31 = .ok (.ireturn, 1) := by decide +kernel
theorem dX11_mark_32 : decode cX11_mark 32 = .ok (.iconst 0, 1) := by decide +kernel
theorem dX11_mark_33 : decode cX11_mark 33 = .ok (.istore_n 1, 1) := by decide +kernel
theorem dX11_mark_34 : decode cX11_mark 34 = .ok (.iload_n 1, 1) := by decide +kernel
theorem dX11_mark_35 : decode cX11_mark 35 = .ok (.bipush 7, 2) := by decide +kernel
theorem dX11_mark_37 : decode cX11_mark 37 = .ok (.if_icmp .ge 29, 3) := by decide +kernel
theorem dX11_mark_40 : decode cX11_mark 40 = .ok (.aload_n 0, 1) := by decide +kernel
theorem dX11_mark_41 : decode cX11_mark 41 = .ok (.getfield 37, 3) := by decide +kernel
theorem dX11_mark_44 : decode cX11_mark 44 = .ok (.bipush 7, 2) := by decide +kernel
theorem dX11_mark_46 : decode cX11_mark 46 = .ok (.aload_n 0, 1) := by decide +kernel
theorem dX11_mark_47 : decode cX11_mark 47 = .ok (.getfield 343, 3) := by decide +kernel
theorem dX11_mark_50 : decode cX11_mark 50 = .ok (.imul, 1) := by decide +kernel
theorem dX11_mark_51 : decode cX11_mark 51 = .ok (.iload_n 1, 1) := by decide +kernel
theorem dX11_mark_52 : decode cX11_mark 52 = .ok (.iadd, 1) := by decide +kernel
theorem dX11_mark_53 : decode cX11_mark 53 = .ok (.aload_n 0, 1) := by decide +kernel
theorem dX11_mark_54 : decode cX11_mark 54 = .ok (.getfield 31, 3) := by decide +kernel
theorem dX11_mark_57 : decode cX11_mark 57 = .ok (.iload_n 1, 1) := by decide +kernel
theorem dX11_mark_58 : decode cX11_mark 58 = .ok (.laload, 1) := by decide +kernel
theorem dX11_mark_59 : decode cX11_mark 59 = .ok (.lastore, 1) := by decide +kernel
theorem dX11_mark_60 : decode cX11_mark 60 = .ok (.iinc 1 1, 3) := by decide +kernel
theorem dX11_mark_63 : decode cX11_mark 63 = .ok (.goto (-29), 3) := by decide +kernel
theorem dX11_mark_66 : decode cX11_mark 66 = .ok (.aload_n 0, 1) := by decide +kernel
theorem dX11_mark_67 : decode cX11_mark 67 = .ok (.dup, 1) := by decide +kernel
theorem dX11_mark_68 : decode cX11_mark 68 = .ok (.getfield 343, 3) := by decide +kernel
theorem dX11_mark_71 : decode cX11_mark 71 = .ok (.iconst 1, 1) := by decide +kernel
theorem dX11_mark_72 : decode cX11_mark 72 = .ok (.iadd, 1) := by decide +kernel
theorem dX11_mark_73 : decode cX11_mark 73 = .ok (.putfield 343, 3) := by decide +kernel
theorem dX11_mark_76 : decode cX11_mark 76 = .ok (.aload_n 0, 1) := by decide +kernel
theorem dX11_mark_77 : decode cX11_mark 77 = .ok (.aload_n 0, 1) := by decide +kernel
theorem dX11_mark_78 : decode cX11_mark 78 = .ok (.getfield 343, 3) := by decide +kernel
theorem dX11_mark_81 : decode cX11_mark 81 = .ok (.iconst 1, 1) := by decide +kernel
theorem dX11_mark_82 : decode cX11_mark 82 = .ok (.isub, 1) := by decide +kernel
theorem dX11_mark_83 : decode cX11_mark 83 = .ok (.invokevirtual 50, 3) := by decide +kernel
theorem dX11_mark_86 : decode cX11_mark 86 = .ok (.ireturn, 1) := by decide +kernel
theorem dX11_back_0 : decode cX11_back 0 = .ok (.aload_n 0, 1) := by decide +kernel
theorem dX11_back_1 : decode cX11_back 1 = .ok (.iconst 0, 1) := by decide +kernel
theorem dX11_back_2 : decode cX11_back 2 = .ok (.putfield 40, 3) := by decide +kernel
theorem dX11_back_5 : decode cX11_back 5 = .ok (.aload_n 0, 1) := by decide +kernel
theorem dX11_back_6 : decode cX11_back 6 = .ok (.invokevirtual 484, 3) := by decide +kernel
theorem dX11_back_9 : decode cX11_back 9 = .ok (.ifCond .eq 15, 3) := by decide +kernel
theorem dX11_back_12 : decode cX11_back 12 = .ok (.iload_n 1, 1) := by decide +kernel
theorem dX11_back_13 : decode cX11_back 13 = .ok (.ifCond .lt 11, 3) := by decide +kernel
theorem dX11_back_16 : decode cX11_back 16 = .ok (.iload_n 1, 1) := by decide +kernel
theorem dX11_back_17 : decode cX11_back 17 = .ok (.aload_n 0, 1) := by decide +kernel
theorem dX11_back_18 : decode cX11_back 18 = .ok (.getfield 343, 3) := by decide +kernel
theorem dX11_back_21 : decode cX11_back 21 = .ok (.if_icmp .lt 9, 3) := by decide +kernel
theorem dX11_back_24 : decode cX11_back 24 = .ok (.aload_n 0, 1) := by decide +kernel
theorem dX11_back_25 : decode cX11_back 25 = .ok (.iconst 1, 1) := by decide +kernel
theorem dX11_back_26 : decode cX11_back 26 = .ok (.invokevirtual 493, 3) := by decide +kernel
theorem dX11_back_29 : decode cX11_back 29 = .ok (.ireturn, 1) := by decide +kernel
theorem dX11_back_30 : decode cX11_back 30 = .ok (.iconst 0, 1) := by decide +kernel
theorem dX11_back_31 : decode cX11_back 31 = .ok (.istore_n 2, 1) := by decide +kernel
theorem dX11_back_32 : decode cX11_back 32 = .ok (.iload_n 2, 1) := by decide +kernel
theorem dX11_back_33 : decode cX11_back 33 = .ok (.bipush 7, 2) := by decide +kernel
theorem dX11_back_35 : decode cX11_back 35 = .ok (.if_icmp .ge 26, 3) := by decide +kernel
theorem dX11_back_38 : decode cX11_back 38 = .ok (.aload_n 0, 1) := by decide +kernel
theorem dX11_back_39 : decode cX11_back 39 = .ok (.getfield 31, 3) := by decide +kernel
theorem dX11_back_42 : decode cX11_back 42 = .ok (.iload_n 2, 1) := by decide +kernel
theorem dX11_back_43 : decode cX11_back 43 = .ok (.aload_n 0, 1) := by decide +kernel
theorem dX11_back_44 : decode cX11_back 44 = .ok (.getfield 37, 3) := by decide +kernel
theorem dX11_back_47 : decode cX11_back 47 = .ok (.bipush 7, 2) := by decide +kernel
theorem dX11_back_49 : decode cX11_back 49 = .ok (.iload_n 1, 1) := by decide +kernel
theorem dX11_back_50 : decode cX11_back 50 = .ok (.imul, 1) := by decide +kernel
theorem dX11_back_51 : decode cX11_back 51 = .ok (.iload_n 2, 1) := by decide +kernel
theorem dX11_back_52 : decode cX11_back 52 = .ok (.iadd, 1) := by decide +kernel
theorem dX11_back_53 : decode cX11_back 53 = .ok (.laload, 1) := by decide +kernel
theorem dX11_back_54 : decode cX11_back 54 = .ok (.lastore, 1) := by decide +kernel
theorem dX11_back_55 : decode cX11_back 55 = .ok (.iinc 2 1, 3) := by decide +kernel
theorem dX11_back_58 : decode cX11_back 58 = .ok (.goto (-26), 3) := by decide +kernel
theorem dX11_back_61 : decode cX11_back 61 = .ok (.aload_n 0, 1) := by decide +kernel
theorem dX11_back_62 : decode cX11_back 62 = .ok (.iconst 0, 1) := by decide +kernel
theorem dX11_back_63 : decode cX11_back 63 = .ok (.putfield 340, 3) := by decide +kernel
theorem dX11_back_66 : decode cX11_back 66 = .ok (.aload_n 0, 1) := by decide +kernel
theorem dX11_back_67 : decode cX11_back 67 = .ok (.invokevirtual 498, 3) := by decide +kernel
theorem dX11_back_70 : decode cX11_back 70 = .ok (.ireturn, 1) := by decide +kernel
theorem dX11_walker_0 : decode cX11_walker 0 = .ok (.aload_n 0, 1) := by decide +kernel
theorem dX11_walker_1 : decode cX11_walker 1 = .ok (.iconst 0, 1) := by decide +kernel
theorem dX11_walker_2 : decode cX11_walker 2 = .ok (.putfield 40, 3) := by decide +kernel
theorem dX11_walker_5 : decode cX11_walker 5 = .ok (.aload_n 0, 1) := by decide +kernel
theorem dX11_walker_6 : decode cX11_walker 6 = .ok (.iload_n 1, 1) := by decide +kernel
theorem dX11_walker_7 : decode cX11_walker 7 = .ok (.invokevirtual 346, 3) := by decide +kernel
theorem dX11_walker_10 : decode cX11_walker 10 = .ok (.ifCond .eq 13, 3) := by decide +kernel
theorem dX11_walker_13 : decode cX11_walker 13 = .ok (.iload_n 2, 1) := by decide +kernel
theorem dX11_walker_14 : decode cX11_walker 14 = .ok (.iconst 0, 1) := by decide +kernel
theorem dX11_walker_15 : decode cX11_walker 15 = .ok (.bipush 6, 2) := by decide +kernel
theorem dX11_walker_17 : decode cX11_walker 17 = .ok (.invokestatic 118, 3) := by decide +kernel
theorem dX11_walker_20 : decode cX11_walker 20 = .ok (.ifCond .ne 9, 3) := by decide +kernel
theorem dX11_walker_23 : decode cX11_walker 23 = .ok (.aload_n 0, 1) := by decide +kernel
theorem dX11_walker_24 : decode cX11_walker 24 = .ok (.iconst 1, 1) := by decide +kernel
theorem dX11_walker_25 : decode cX11_walker 25 = .ok (.invokevirtual 46, 3) := by decide +kernel
theorem dX11_walker_28 : decode cX11_walker 28 = .ok (.ireturn, 1) := by decide +kernel
theorem dX11_walker_29 : decode cX11_walker 29 = .ok (.iload_n 2, 1) := by decide +kernel
theorem dX11_walker_30 : decode cX11_walker 30 = .ok (.tableswitch 122 0 5 #[38, 52, 66, 80, 94, 108], 38) := by decide +kernel
theorem dX11_walker_68 : decode cX11_walker 68 = .ok (.aload_n 0, 1) := by decide +kernel
theorem dX11_walker_69 : decode cX11_walker 69 = .ok (.aload_n 0, 1) := by decide +kernel
theorem dX11_walker_70 : decode cX11_walker 70 = .ok (.getfield 338, 3) := by decide +kernel
theorem dX11_walker_73 : decode cX11_walker 73 = .ok (.getfield 302, 3) := by decide +kernel
theorem dX11_walker_76 : decode cX11_walker 76 = .ok (.iload_n 1, 1) := by decide +kernel
theorem dX11_walker_77 : decode cX11_walker 77 = .ok (.iaload, 1) := by decide +kernel
theorem dX11_walker_78 : decode cX11_walker 78 = .ok (.invokevirtual 50, 3) := by decide +kernel
theorem dX11_walker_81 : decode cX11_walker 81 = .ok (.ireturn, 1) := by decide +kernel
theorem dX11_walker_82 : decode cX11_walker 82 = .ok (.aload_n 0, 1) := by decide +kernel
theorem dX11_walker_83 : decode cX11_walker 83 = .ok (.aload_n 0, 1) := by decide +kernel
theorem dX11_walker_84 : decode cX11_walker 84 = .ok (.getfield 338, 3) := by decide +kernel
theorem dX11_walker_87 : decode cX11_walker 87 = .ok (.getfield 305, 3) := by decide +kernel
theorem dX11_walker_90 : decode cX11_walker 90 = .ok (.iload_n 1, 1) := by decide +kernel
theorem dX11_walker_91 : decode cX11_walker 91 = .ok (.iaload, 1) := by decide +kernel
theorem dX11_walker_92 : decode cX11_walker 92 = .ok (.invokevirtual 50, 3) := by decide +kernel
theorem dX11_walker_95 : decode cX11_walker 95 = .ok (.ireturn, 1) := by decide +kernel
theorem dX11_walker_96 : decode cX11_walker 96 = .ok (.aload_n 0, 1) := by decide +kernel
theorem dX11_walker_97 : decode cX11_walker 97 = .ok (.aload_n 0, 1) := by decide +kernel
theorem dX11_walker_98 : decode cX11_walker 98 = .ok (.getfield 338, 3) := by decide +kernel
theorem dX11_walker_101 : decode cX11_walker 101 = .ok (.getfield 308, 3) := by decide +kernel
theorem dX11_walker_104 : decode cX11_walker 104 = .ok (.iload_n 1, 1) := by decide +kernel
theorem dX11_walker_105 : decode cX11_walker 105 = .ok (.iaload, 1) := by decide +kernel
theorem dX11_walker_106 : decode cX11_walker 106 = .ok (.invokevirtual 50, 3) := by decide +kernel
theorem dX11_walker_109 : decode cX11_walker 109 = .ok (.ireturn, 1) := by decide +kernel
theorem dX11_walker_110 : decode cX11_walker 110 = .ok (.aload_n 0, 1) := by decide +kernel
theorem dX11_walker_111 : decode cX11_walker 111 = .ok (.aload_n 0, 1) := by decide +kernel
theorem dX11_walker_112 : decode cX11_walker 112 = .ok (.getfield 338, 3) := by decide +kernel
theorem dX11_walker_115 : decode cX11_walker 115 = .ok (.getfield 311, 3) := by decide +kernel
theorem dX11_walker_118 : decode cX11_walker 118 = .ok (.iload_n 1, 1) := by decide +kernel
theorem dX11_walker_119 : decode cX11_walker 119 = .ok (.iaload, 1) := by decide +kernel
theorem dX11_walker_120 : decode cX11_walker 120 = .ok (.invokevirtual 50, 3) := by decide +kernel
theorem dX11_walker_123 : decode cX11_walker 123 = .ok (.ireturn, 1) := by decide +kernel
theorem dX11_walker_124 : decode cX11_walker 124 = .ok (.aload_n 0, 1) := by decide +kernel
theorem dX11_walker_125 : decode cX11_walker 125 = .ok (.aload_n 0, 1) := by decide +kernel
theorem dX11_walker_126 : decode cX11_walker 126 = .ok (.getfield 338, 3) := by decide +kernel
theorem dX11_walker_129 : decode cX11_walker 129 = .ok (.getfield 314, 3) := by decide +kernel
theorem dX11_walker_132 : decode cX11_walker 132 = .ok (.iload_n 1, 1) := by decide +kernel
theorem dX11_walker_133 : decode cX11_walker 133 = .ok (.iaload, 1) := by decide +kernel
theorem dX11_walker_134 : decode cX11_walker 134 = .ok (.invokevirtual 50, 3) := by decide +kernel
theorem dX11_walker_137 : decode cX11_walker 137 = .ok (.ireturn, 1) := by decide +kernel
theorem dX11_walker_138 : decode cX11_walker 138 = .ok (.aload_n 0, 1) := by decide +kernel
theorem dX11_walker_139 : decode cX11_walker 139 = .ok (.aload_n 0, 1) := by decide +kernel
theorem dX11_walker_140 : decode cX11_walker 140 = .ok (.getfield 338, 3) := by decide +kernel
theorem dX11_walker_143 : decode cX11_walker 143 = .ok (.getfield 317, 3) := by decide +kernel
theorem dX11_walker_146 : decode cX11_walker 146 = .ok (.iload_n 1, 1) := by decide +kernel
theorem dX11_walker_147 : decode cX11_walker 147 = .ok (.iaload, 1) := by decide +kernel
theorem dX11_walker_148 : decode cX11_walker 148 = .ok (.invokevirtual 50, 3) := by decide +kernel
theorem dX11_walker_151 : decode cX11_walker 151 = .ok (.ireturn, 1) := by decide +kernel
theorem dX11_walker_152 : decode cX11_walker 152 = .ok (.aload_n 0, 1) := by decide +kernel
theorem dX11_walker_153 : decode cX11_walker 153 = .ok (.aload_n 0, 1) := by decide +kernel
theorem dX11_walker_154 : decode cX11_walker 154 = .ok (.getfield 338, 3) := by decide +kernel
theorem dX11_walker_157 : decode cX11_walker 157 = .ok (.getfield 320, 3) := by decide +kernel
theorem dX11_walker_160 : decode cX11_walker 160 = .ok (.iload_n 1, 1) := by decide +kernel
theorem dX11_walker_161 : decode cX11_walker 161 = .ok (.iaload, 1) := by decide +kernel
theorem dX11_walker_162 : decode cX11_walker 162 = .ok (.invokevirtual 50, 3) := by decide +kernel
theorem dX11_walker_165 : decode cX11_walker 165 = .ok (.ireturn, 1) := by decide +kernel
theorem dX11_road_0 : decode cX11_road 0 = .ok (.aload_n 0, 1) := by decide +kernel
theorem dX11_road_1 : decode cX11_road 1 = .ok (.iconst 0, 1) := by decide +kernel
theorem dX11_road_2 : decode cX11_road 2 = .ok (.putfield 40, 3) := by decide +kernel
theorem dX11_road_5 : decode cX11_road 5 = .ok (.aload_n 0, 1) := by decide +kernel
theorem dX11_road_6 : decode cX11_road 6 = .ok (.iload_n 1, 1) := by decide +kernel
theorem dX11_road_7 : decode cX11_road 7 = .ok (.invokevirtual 349, 3) := by decide +kernel
theorem dX11_road_10 : decode cX11_road 10 = .ok (.ifCond .eq 12, 3) := by decide +kernel
theorem dX11_road_13 : decode cX11_road 13 = .ok (.iload_n 2, 1) := by decide +kernel
theorem dX11_road_14 : decode cX11_road 14 = .ok (.iconst 0, 1) := by decide +kernel
theorem dX11_road_15 : decode cX11_road 15 = .ok (.iconst 4, 1) := by decide +kernel
theorem dX11_road_16 : decode cX11_road 16 = .ok (.invokestatic 118, 3) := by decide +kernel
theorem dX11_road_19 : decode cX11_road 19 = .ok (.ifCond .ne 9, 3) := by decide +kernel
theorem dX11_road_22 : decode cX11_road 22 = .ok (.aload_n 0, 1) := by decide +kernel
theorem dX11_road_23 : decode cX11_road 23 = .ok (.iconst 1, 1) := by decide +kernel
theorem dX11_road_24 : decode cX11_road 24 = .ok (.invokevirtual 46, 3) := by decide +kernel
theorem dX11_road_27 : decode cX11_road 27 = .ok (.ireturn, 1) := by decide +kernel
theorem dX11_road_28 : decode cX11_road 28 = .ok (.iload_n 2, 1) := by decide +kernel
theorem dX11_road_29 : decode cX11_road 29 = .ok (.tableswitch 87 0 3 #[31, 45, 59, 73], 31) := by decide +kernel
theorem dX11_road_60 : decode cX11_road 60 = .ok (.aload_n 0, 1) := by decide +kernel
theorem dX11_road_61 : decode cX11_road 61 = .ok (.aload_n 0, 1) := by decide +kernel
theorem dX11_road_62 : decode cX11_road 62 = .ok (.getfield 338, 3) := by decide +kernel
theorem dX11_road_65 : decode cX11_road 65 = .ok (.getfield 270, 3) := by decide +kernel
theorem dX11_road_68 : decode cX11_road 68 = .ok (.iload_n 1, 1) := by decide +kernel
theorem dX11_road_69 : decode cX11_road 69 = .ok (.iaload, 1) := by decide +kernel
theorem dX11_road_70 : decode cX11_road 70 = .ok (.invokevirtual 50, 3) := by decide +kernel
theorem dX11_road_73 : decode cX11_road 73 = .ok (.ireturn, 1) := by decide +kernel
theorem dX11_road_74 : decode cX11_road 74 = .ok (.aload_n 0, 1) := by decide +kernel
theorem dX11_road_75 : decode cX11_road 75 = .ok (.aload_n 0, 1) := by decide +kernel
theorem dX11_road_76 : decode cX11_road 76 = .ok (.getfield 338, 3) := by decide +kernel
theorem dX11_road_79 : decode cX11_road 79 = .ok (.getfield 273, 3) := by decide +kernel
theorem dX11_road_82 : decode cX11_road 82 = .ok (.iload_n 1, 1) := by decide +kernel
theorem dX11_road_83 : decode cX11_road 83 = .ok (.iaload, 1) := by decide +kernel
theorem dX11_road_84 : decode cX11_road 84 = .ok (.invokevirtual 50, 3) := by decide +kernel
theorem dX11_road_87 : decode cX11_road 87 = .ok (.ireturn, 1) := by decide +kernel
theorem dX11_road_88 : decode cX11_road 88 = .ok (.aload_n 0, 1) := by decide +kernel
theorem dX11_road_89 : decode cX11_road 89 = .ok (.aload_n 0, 1) := by decide +kernel
theorem dX11_road_90 : decode cX11_road 90 = .ok (.getfield 338, 3) := by decide +kernel
theorem dX11_road_93 : decode cX11_road 93 = .ok (.getfield 276, 3) := by decide +kernel
theorem dX11_road_96 : decode cX11_road 96 = .ok (.iload_n 1, 1) := by decide +kernel
theorem dX11_road_97 : decode cX11_road 97 = .ok (.iaload, 1) := by decide +kernel
theorem dX11_road_98 : decode cX11_road 98 = .ok (.invokevirtual 50, 3) := by decide +kernel
theorem dX11_road_101 : decode cX11_road 101 = .ok (.ireturn, 1) := by decide +kernel
theorem dX11_road_102 : decode cX11_road 102 = .ok (.aload_n 0, 1) := by decide +kernel
theorem dX11_road_103 : decode cX11_road 103 = .ok (.aload_n 0, 1) := by decide +kernel
theorem dX11_road_104 : decode cX11_road 104 = .ok (.getfield 338, 3) := by decide +kernel
theorem dX11_road_107 : decode cX11_road 107 = .ok (.getfield 279, 3) := by decide +kernel
theorem dX11_road_110 : decode cX11_road 110 = .ok (.iload_n 1, 1) := by decide +kernel
theorem dX11_road_111 : decode cX11_road 111 = .ok (.iaload, 1) := by decide +kernel
theorem dX11_road_112 : decode cX11_road 112 = .ok (.invokevirtual 50, 3) := by decide +kernel
theorem dX11_road_115 : decode cX11_road 115 = .ok (.ireturn, 1) := by decide +kernel
theorem dX11_road_116 : decode cX11_road 116 = .ok (.aload_n 0, 1) := by decide +kernel
theorem dX11_road_117 : decode cX11_road 117 = .ok (.aload_n 0, 1) := by decide +kernel
theorem dX11_road_118 : decode cX11_road 118 = .ok (.getfield 338, 3) := by decide +kernel
theorem dX11_road_121 : decode cX11_road 121 = .ok (.getfield 282, 3) := by decide +kernel
theorem dX11_road_124 : decode cX11_road 124 = .ok (.iload_n 1, 1) := by decide +kernel
theorem dX11_road_125 : decode cX11_road 125 = .ok (.iaload, 1) := by decide +kernel
theorem dX11_road_126 : decode cX11_road 126 = .ok (.invokevirtual 50, 3) := by decide +kernel
theorem dX11_road_129 : decode cX11_road 129 = .ok (.ireturn, 1) := by decide +kernel
theorem dX11_led_0 : decode cX11_led 0 = .ok (.aload_n 0, 1) := by decide +kernel
theorem dX11_led_1 : decode cX11_led 1 = .ok (.iconst 0, 1) := by decide +kernel
theorem dX11_led_2 : decode cX11_led 2 = .ok (.putfield 40, 3) := by decide +kernel
theorem dX11_led_5 : decode cX11_led 5 = .ok (.iconst 0, 1) := by decide +kernel
theorem dX11_led_6 : decode cX11_led 6 = .ok (.istore_n 2, 1) := by decide +kernel
theorem dX11_led_7 : decode cX11_led 7 = .ok (.iconst 0, 1) := by decide +kernel
theorem dX11_led_8 : decode cX11_led 8 = .ok (.istore_n 3, 1) := by decide +kernel
theorem dX11_led_9 : decode cX11_led 9 = .ok (.aload_n 0, 1) := by decide +kernel
theorem dX11_led_10 : decode cX11_led 10 = .ok (.invokevirtual 484, 3) := by decide +kernel
theorem dX11_led_13 : decode cX11_led 13 = .ok (.ifCond .eq 73, 3) := by decide +kernel
theorem dX11_led_16 : decode cX11_led 16 = .ok (.iload_n 3, 1) := by decide +kernel
theorem dX11_led_17 : decode cX11_led 17 = .ok (.aload_n 0, 1) := by decide +kernel
theorem dX11_led_18 : decode cX11_led 18 = .ok (.getfield 338, 3) := by decide +kernel
theorem dX11_led_21 : decode cX11_led 21 = .ok (.getfield 264, 3) := by decide +kernel
theorem dX11_led_24 : decode cX11_led 24 = .ok (.if_icmp .ge 62, 3) := by decide +kernel
theorem dX11_led_27 : decode cX11_led 27 = .ok (.aload_n 0, 1) := by decide +kernel
theorem dX11_led_28 : decode cX11_led 28 = .ok (.getfield 338, 3) := by decide +kernel
theorem dX11_led_31 : decode cX11_led 31 = .ok (.getfield 270, 3) := by decide +kernel
theorem dX11_led_34 : decode cX11_led 34 = .ok (.iload_n 3, 1) := by decide +kernel
theorem dX11_led_35 : decode cX11_led 35 = .ok (.iaload, 1) := by decide +kernel
theorem dX11_led_36 : decode cX11_led 36 = .ok (.i2l, 1) := by decide +kernel
theorem dX11_led_37 : decode cX11_led 37 = .ok (.aload_n 0, 1) := by decide +kernel
theorem dX11_led_38 : decode cX11_led 38 = .ok (.getfield 31, 3) := by decide +kernel
theorem dX11_led_41 : decode cX11_led 41 = .ok (.iconst 0, 1) := by decide +kernel
theorem dX11_led_42 : decode cX11_led 42 = .ok (.laload, 1) := by decide +kernel
theorem dX11_led_43 : decode cX11_led 43 = .ok (.lcmp, 1) := by decide +kernel
theorem dX11_led_44 : decode cX11_led 44 = .ok (.ifCond .eq 26, 3) := by decide +kernel
theorem dX11_led_47 : decode cX11_led 47 = .ok (.aload_n 0, 1) := by decide +kernel
theorem dX11_led_48 : decode cX11_led 48 = .ok (.getfield 338, 3) := by decide +kernel
theorem dX11_led_51 : decode cX11_led 51 = .ok (.getfield 273, 3) := by decide +kernel
theorem dX11_led_54 : decode cX11_led 54 = .ok (.iload_n 3, 1) := by decide +kernel
theorem dX11_led_55 : decode cX11_led 55 = .ok (.iaload, 1) := by decide +kernel
theorem dX11_led_56 : decode cX11_led 56 = .ok (.i2l, 1) := by decide +kernel
theorem dX11_led_57 : decode cX11_led 57 = .ok (.aload_n 0, 1) := by decide +kernel
theorem dX11_led_58 : decode cX11_led 58 = .ok (.getfield 31, 3) := by decide +kernel
theorem dX11_led_61 : decode cX11_led 61 = .ok (.iconst 0, 1) := by decide +kernel
theorem dX11_led_62 : decode cX11_led 62 = .ok (.laload, 1) := by decide +kernel
theorem dX11_led_63 : decode cX11_led 63 = .ok (.lcmp, 1) := by decide +kernel
theorem dX11_led_64 : decode cX11_led 64 = .ok (.ifCond .eq 6, 3) := by decide +kernel
theorem dX11_led_67 : decode cX11_led 67 = .ok (.goto 13, 3) := by decide +kernel
theorem dX11_led_70 : decode cX11_led 70 = .ok (.iload_n 2, 1) := by decide +kernel
theorem dX11_led_71 : decode cX11_led 71 = .ok (.iload_n 1, 1) := by decide +kernel
theorem dX11_led_72 : decode cX11_led 72 = .ok (.if_icmp .ne 5, 3) := by decide +kernel
theorem dX11_led_75 : decode cX11_led 75 = .ok (.iload_n 3, 1) := by decide +kernel
theorem dX11_led_76 : decode cX11_led 76 = .ok (.ireturn, 1) := by decide +kernel
theorem dX11_led_77 : decode cX11_led 77 = .ok (.iinc 2 1, 3) := by decide +kernel
theorem dX11_led_80 : decode cX11_led 80 = .ok (.iinc 3 1, 3) := by decide +kernel
theorem dX11_led_83 : decode cX11_led 83 = .ok (.goto (-74), 3) := by decide +kernel
theorem dX11_led_86 : decode cX11_led 86 = .ok (.aload_n 0, 1) := by decide +kernel
theorem dX11_led_87 : decode cX11_led 87 = .ok (.iconst 1, 1) := by decide +kernel
theorem dX11_led_88 : decode cX11_led 88 = .ok (.putfield 40, 3) := by decide +kernel
theorem dX11_led_91 : decode cX11_led 91 = .ok (.iconst 0, 1) := by decide +kernel
theorem dX11_led_92 : decode cX11_led 92 = .ok (.ireturn, 1) := by decide +kernel
theorem dX11_size_0 : decode cX11_size 0 = .ok (.aload_n 0, 1) := by decide +kernel
theorem dX11_size_1 : decode cX11_size 1 = .ok (.iconst 0, 1) := by decide +kernel
theorem dX11_size_2 : decode cX11_size 2 = .ok (.putfield 40, 3) := by decide +kernel
theorem dX11_size_5 : decode cX11_size 5 = .ok (.iload_n 1, 1) := by decide +kernel
theorem dX11_size_6 : decode cX11_size 6 = .ok (.bipush 11, 2) := by decide +kernel
theorem dX11_size_8 : decode cX11_size 8 = .ok (.if_icmp .ne 8, 3) := by decide +kernel
theorem dX11_size_11 : decode cX11_size 11 = .ok (.aload_n 0, 1) := by decide +kernel
theorem dX11_size_12 : decode cX11_size 12 = .ok (.getfield 331, 3) := by decide +kernel
theorem dX11_size_15 : decode cX11_size 15 = .ok (.ireturn, 1) := by decide +kernel
theorem dX11_size_16 : decode cX11_size 16 = .ok (.iload_n 1, 1) := by decide +kernel
theorem dX11_size_17 : decode cX11_size 17 = .ok (.iconst 0, 1) := by decide +kernel
theorem dX11_size_18 : decode cX11_size 18 = .ok (.bipush 10, 2) := by decide +kernel
theorem dX11_size_20 : decode cX11_size 20 = .ok (.invokestatic 118, 3) := by decide +kernel
theorem dX11_size_23 : decode cX11_size 23 = .ok (.ifCond .ne 5, 3) := by decide +kernel
theorem dX11_size_26 : decode cX11_size 26 = .ok (.iconst (-1), 1) := by decide +kernel
theorem dX11_size_27 : decode cX11_size 27 = .ok (.ireturn, 1) := by decide +kernel
theorem dX11_size_28 : decode cX11_size 28 = .ok (.aload_n 0, 1) := by decide +kernel
theorem dX11_size_29 : decode cX11_size 29 = .ok (.getfield 338, 3) := by decide +kernel
theorem dX11_size_32 : decode cX11_size 32 = .ok (.ifnonnull 5, 3) := by decide +kernel
theorem dX11_size_35 : decode cX11_size 35 = .ok (.iconst 0, 1) := by decide +kernel
theorem dX11_size_36 : decode cX11_size 36 = .ok (.ireturn, 1) := by decide +kernel
theorem dX11_size_37 : decode cX11_size 37 = .ok (.iload_n 1, 1) := by decide +kernel
theorem dX11_size_38 : decode cX11_size 38 = .ok (.tableswitch 151 0 9 #[54, 62, 70, 78, 86, 94, 102, 107, 127, 146], 54) := by decide +kernel
theorem dX11_size_92 : decode cX11_size 92 = .ok (.aload_n 0, 1) := by decide +kernel
theorem dX11_size_93 : decode cX11_size 93 = .ok (.getfield 338, 3) := by decide +kernel
theorem dX11_size_96 : decode cX11_size 96 = .ok (.getfield 151, 3) := by decide +kernel
theorem dX11_size_99 : decode cX11_size 99 = .ok (.ireturn, 1) := by decide +kernel
theorem dX11_size_100 : decode cX11_size 100 = .ok (.aload_n 0, 1) := by decide +kernel
theorem dX11_size_101 : decode cX11_size 101 = .ok (.getfield 338, 3) := by decide +kernel
theorem dX11_size_104 : decode cX11_size 104 = .ok (.getfield 219, 3) := by decide +kernel
theorem dX11_size_107 : decode cX11_size 107 = .ok (.ireturn, 1) := by decide +kernel
theorem dX11_size_108 : decode cX11_size 108 = .ok (.aload_n 0, 1) := by decide +kernel
theorem dX11_size_109 : decode cX11_size 109 = .ok (.getfield 338, 3) := by decide +kernel
theorem dX11_size_112 : decode cX11_size 112 = .ok (.getfield 190, 3) := by decide +kernel
theorem dX11_size_115 : decode cX11_size 115 = .ok (.ireturn, 1) := by decide +kernel
theorem dX11_size_116 : decode cX11_size 116 = .ok (.aload_n 0, 1) := by decide +kernel
theorem dX11_size_117 : decode cX11_size 117 = .ok (.getfield 338, 3) := by decide +kernel
theorem dX11_size_120 : decode cX11_size 120 = .ok (.getfield 264, 3) := by decide +kernel
theorem dX11_size_123 : decode cX11_size 123 = .ok (.ireturn, 1) := by decide +kernel
theorem dX11_size_124 : decode cX11_size 124 = .ok (.aload_n 0, 1) := by decide +kernel
theorem dX11_size_125 : decode cX11_size 125 = .ok (.getfield 338, 3) := by decide +kernel
theorem dX11_size_128 : decode cX11_size 128 = .ok (.getfield 193, 3) := by decide +kernel
theorem dX11_size_131 : decode cX11_size 131 = .ok (.ireturn, 1) := by decide +kernel
theorem dX11_size_132 : decode cX11_size 132 = .ok (.aload_n 0, 1) := by decide +kernel
theorem dX11_size_133 : decode cX11_size 133 = .ok (.getfield 338, 3) := by decide +kernel
theorem dX11_size_136 : decode cX11_size 136 = .ok (.getfield 323, 3) := by decide +kernel
theorem dX11_size_139 : decode cX11_size 139 = .ok (.ireturn, 1) := by decide +kernel
theorem dX11_size_140 : decode cX11_size 140 = .ok (.aload_n 0, 1) := by decide +kernel
theorem dX11_size_141 : decode cX11_size 141 = .ok (.getfield 28, 3) := by decide +kernel
theorem dX11_size_144 : decode cX11_size 144 = .ok (.ireturn, 1) := by decide +kernel
theorem dX11_size_145 : decode cX11_size 145 = .ok (.aload_n 0, 1) := by decide +kernel
theorem dX11_size_146 : decode cX11_size 146 = .ok (.invokevirtual 484, 3) := by decide +kernel
theorem dX11_size_149 : decode cX11_size 149 = .ok (.ifCond .eq 13, 3) := by decide +kernel
theorem dX11_size_152 : decode cX11_size 152 = .ok (.aload_n 0, 1) := by decide +kernel
theorem dX11_size_153 : decode cX11_size 153 = .ok (.getfield 31, 3) := by decide +kernel
theorem dX11_size_156 : decode cX11_size 156 = .ok (.iconst 0, 1) := by decide +kernel
theorem dX11_size_157 : decode cX11_size 157 = .ok (.laload, 1) := by decide +kernel
theorem dX11_size_158 : decode cX11_size 158 = .ok (.l2i, 1) := by decide +kernel
theorem dX11_size_159 : decode cX11_size 159 = .ok (.goto 5, 3) := by decide +kernel
theorem dX11_size_162 : decode cX11_size 162 = .ok (.bipush (-2), 2) := by decide +kernel
theorem dX11_size_164 : decode cX11_size 164 = .ok (.ireturn, 1) := by decide +kernel
theorem dX11_size_165 : decode cX11_size 165 = .ok (.aload_n 0, 1) := by decide +kernel
theorem dX11_size_166 : decode cX11_size 166 = .ok (.invokevirtual 484, 3) := by decide +kernel
theorem dX11_size_169 : decode cX11_size 169 = .ok (.ifCond .eq 13, 3) := by decide +kernel
theorem dX11_size_172 : decode cX11_size 172 = .ok (.aload_n 0, 1) := by decide +kernel
theorem dX11_size_173 : decode cX11_size 173 = .ok (.getfield 31, 3) := by decide +kernel
theorem dX11_size_176 : decode cX11_size 176 = .ok (.iconst 1, 1) := by decide +kernel
theorem dX11_size_177 : decode cX11_size 177 = .ok (.laload, 1) := by decide +kernel
theorem dX11_size_178 : decode cX11_size 178 = .ok (.l2i, 1) := by decide +kernel
theorem dX11_size_179 : decode cX11_size 179 = .ok (.goto 4, 3) := by decide +kernel
theorem dX11_size_182 : decode cX11_size 182 = .ok (.iconst 0, 1) := by decide +kernel
theorem dX11_size_183 : decode cX11_size 183 = .ok (.ireturn, 1) := by decide +kernel
theorem dX11_size_184 : decode cX11_size 184 = .ok (.aload_n 0, 1) := by decide +kernel
theorem dX11_size_185 : decode cX11_size 185 = .ok (.getfield 340, 3) := by decide +kernel
theorem dX11_size_188 : decode cX11_size 188 = .ok (.ireturn, 1) := by decide +kernel
theorem dX11_size_189 : decode cX11_size 189 = .ok (.aload_n 0, 1) := by decide +kernel
theorem dX11_size_190 : decode cX11_size 190 = .ok (.getfield 343, 3) := by decide +kernel
theorem dX11_size_193 : decode cX11_size 193 = .ok (.ireturn, 1) := by decide +kernel
theorem dX11_trouble_0 : decode cX11_trouble 0 = .ok (.aload_n 0, 1) := by decide +kernel
theorem dX11_trouble_1 : decode cX11_trouble 1 = .ok (.iconst 0, 1) := by decide +kernel
theorem dX11_trouble_2 : decode cX11_trouble 2 = .ok (.putfield 40, 3) := by decide +kernel
theorem dX11_trouble_5 : decode cX11_trouble 5 = .ok (.aload_n 0, 1) := by decide +kernel
theorem dX11_trouble_6 : decode cX11_trouble 6 = .ok (.getfield 43, 3) := by decide +kernel
theorem dX11_trouble_9 : decode cX11_trouble 9 = .ok (.ireturn, 1) := by decide +kernel
theorem dJ9_max_7cf53_0 : decode cJ9_max_7cf53 0 = .ok (.iload_n 0, 1) := by decide +kernel
theorem dJ9_max_7cf53_1 : decode cJ9_max_7cf53 1 = .ok (.iload_n 1, 1) := by decide +kernel
theorem dJ9_max_7cf53_2 : decode cJ9_max_7cf53 2 = .ok (.if_icmp .lt 7, 3) := by decide +kernel
theorem dJ9_max_7cf53_5 : decode cJ9_max_7cf53 5 = .ok (.iload_n 0, 1) := by decide +kernel
theorem dJ9_max_7cf53_6 : decode cJ9_max_7cf53 6 = .ok (.goto 4, 3) := by decide +kernel
theorem dJ9_max_7cf53_9 : decode cJ9_max_7cf53 9 = .ok (.iload_n 1, 1) := by decide +kernel
theorem dJ9_max_7cf53_10 : decode cJ9_max_7cf53 10 = .ok (.ireturn, 1) := by decide +kernel
theorem dJ9_max_f86c9_0 : decode cJ9_max_f86c9 0 = .ok (.lload_n 0, 1) := by decide +kernel
theorem dJ9_max_f86c9_1 : decode cJ9_max_f86c9 1 = .ok (.lload_n 2, 1) := by decide +kernel
theorem dJ9_max_f86c9_2 : decode cJ9_max_f86c9 2 = .ok (.lcmp, 1) := by decide +kernel
theorem dJ9_max_f86c9_3 : decode cJ9_max_f86c9 3 = .ok (.ifCond .lt 7, 3) := by decide +kernel
theorem dJ9_max_f86c9_6 : decode cJ9_max_f86c9 6 = .ok (.lload_n 0, 1) := by decide +kernel
theorem dJ9_max_f86c9_7 : decode cJ9_max_f86c9 7 = .ok (.goto 4, 3) := by decide +kernel
theorem dJ9_max_f86c9_10 : decode cJ9_max_f86c9 10 = .ok (.lload_n 2, 1) := by decide +kernel
theorem dJ9_max_f86c9_11 : decode cJ9_max_f86c9 11 = .ok (.lreturn, 1) := by decide +kernel
theorem dJ9_min_7cf53_0 : decode cJ9_min_7cf53 0 = .ok (.iload_n 0, 1) := by decide +kernel
theorem dJ9_min_7cf53_1 : decode cJ9_min_7cf53 1 = .ok (.iload_n 1, 1) := by decide +kernel
theorem dJ9_min_7cf53_2 : decode cJ9_min_7cf53 2 = .ok (.if_icmp .gt 7, 3) := by decide +kernel
theorem dJ9_min_7cf53_5 : decode cJ9_min_7cf53 5 = .ok (.iload_n 0, 1) := by decide +kernel
theorem dJ9_min_7cf53_6 : decode cJ9_min_7cf53 6 = .ok (.goto 4, 3) := by decide +kernel
theorem dJ9_min_7cf53_9 : decode cJ9_min_7cf53 9 = .ok (.iload_n 1, 1) := by decide +kernel
theorem dJ9_min_7cf53_10 : decode cJ9_min_7cf53 10 = .ok (.ireturn, 1) := by decide +kernel
theorem dJ0_length_8abf5_0 : decode cJ0_length_8abf5 0 = .ok (.aload_n 0, 1) := by decide +kernel
theorem dJ0_length_8abf5_1 : decode cJ0_length_8abf5 1 = .ok (.getfield 9, 3) := by decide +kernel
theorem dJ0_length_8abf5_4 : decode cJ0_length_8abf5 4 = .ok (.arraylength, 1) := by decide +kernel
theorem dJ0_length_8abf5_5 : decode cJ0_length_8abf5 5 = .ok (.aload_n 0, 1) := by decide +kernel
theorem dJ0_length_8abf5_6 : decode cJ0_length_8abf5 6 = .ok (.invokevirtual 335, 3) := by decide +kernel
theorem dJ0_length_8abf5_9 : decode cJ0_length_8abf5 9 = .ok (.ishr, 1) := by decide +kernel
theorem dJ0_length_8abf5_10 : decode cJ0_length_8abf5 10 = .ok (.ireturn, 1) := by decide +kernel
theorem dJ0_charAt_5068e_0 : decode cJ0_charAt_5068e 0 = .ok (.aload_n 0, 1) := by decide +kernel
theorem dJ0_charAt_5068e_1 : decode cJ0_charAt_5068e 1 = .ok (.invokevirtual 492, 3) := by decide +kernel
theorem dJ0_charAt_5068e_4 : decode cJ0_charAt_5068e 4 = .ok (.ifCond .eq 12, 3) := by decide +kernel
theorem dJ0_charAt_5068e_7 : decode cJ0_charAt_5068e 7 = .ok (.aload_n 0, 1) := by decide +kernel
theorem dJ0_charAt_5068e_8 : decode cJ0_charAt_5068e 8 = .ok (.getfield 9, 3) := by decide +kernel
theorem dJ0_charAt_5068e_11 : decode cJ0_charAt_5068e 11 = .ok (.iload_n 1, 1) := by decide +kernel
theorem dJ0_charAt_5068e_12 : decode cJ0_charAt_5068e 12 = .ok (.invokestatic 495, 3) := by decide +kernel
theorem dJ0_charAt_5068e_15 : decode cJ0_charAt_5068e 15 = .ok (.ireturn, 1) := by decide +kernel
theorem dJ0_charAt_5068e_16 : decode cJ0_charAt_5068e 16 = .ok (.aload_n 0, 1) := by decide +kernel
theorem dJ0_charAt_5068e_17 : decode cJ0_charAt_5068e 17 = .ok (.getfield 9, 3) := by decide +kernel
theorem dJ0_charAt_5068e_20 : decode cJ0_charAt_5068e 20 = .ok (.iload_n 1, 1) := by decide +kernel
theorem dJ0_charAt_5068e_21 : decode cJ0_charAt_5068e 21 = .ok (.invokestatic 498, 3) := by decide +kernel
theorem dJ0_charAt_5068e_24 : decode cJ0_charAt_5068e 24 = .ok (.ireturn, 1) := by decide +kernel
theorem dJ0_coder_7d493_0 : decode cJ0_coder_7d493 0 = .ok (.getstatic 38, 3) := by decide +kernel
theorem dJ0_coder_7d493_3 : decode cJ0_coder_7d493 3 = .ok (.ifCond .eq 10, 3) := by decide +kernel
theorem dJ0_coder_7d493_6 : decode cJ0_coder_7d493 6 = .ok (.aload_n 0, 1) := by decide +kernel
theorem dJ0_coder_7d493_7 : decode cJ0_coder_7d493 7 = .ok (.getfield 15, 3) := by decide +kernel
theorem dJ0_coder_7d493_10 : decode cJ0_coder_7d493 10 = .ok (.goto 4, 3) := by decide +kernel
theorem dJ0_coder_7d493_13 : decode cJ0_coder_7d493 13 = .ok (.iconst 1, 1) := by decide +kernel
theorem dJ0_coder_7d493_14 : decode cJ0_coder_7d493 14 = .ok (.ireturn, 1) := by decide +kernel
theorem dJ0_isLatin1_aae02_0 : decode cJ0_isLatin1_aae02 0 = .ok (.getstatic 38, 3) := by decide +kernel
theorem dJ0_isLatin1_aae02_3 : decode cJ0_isLatin1_aae02 3 = .ok (.ifCond .eq 14, 3) := by decide +kernel
theorem dJ0_isLatin1_aae02_6 : decode cJ0_isLatin1_aae02 6 = .ok (.aload_n 0, 1) := by decide +kernel
theorem dJ0_isLatin1_aae02_7 : decode cJ0_isLatin1_aae02 7 = .ok (.getfield 15, 3) := by decide +kernel
theorem dJ0_isLatin1_aae02_10 : decode cJ0_isLatin1_aae02 10 = .ok (.ifCond .ne 7, 3) := by decide +kernel
theorem dJ0_isLatin1_aae02_13 : decode cJ0_isLatin1_aae02 13 = .ok (.iconst 1, 1) := by decide +kernel
theorem dJ0_isLatin1_aae02_14 : decode cJ0_isLatin1_aae02 14 = .ok (.goto 4, 3) := by decide +kernel
theorem dJ0_isLatin1_aae02_17 : decode cJ0_isLatin1_aae02 17 = .ok (.iconst 0, 1) := by decide +kernel
theorem dJ0_isLatin1_aae02_18 : decode cJ0_isLatin1_aae02 18 = .ok (.ireturn, 1) := by decide +kernel
theorem dJ0_checkIndex_df160_0 : decode cJ0_checkIndex_df160 0 = .ok (.iload_n 0, 1) := by decide +kernel
theorem dJ0_checkIndex_df160_1 : decode cJ0_checkIndex_df160 1 = .ok (.iload_n 1, 1) := by decide +kernel
theorem dJ0_checkIndex_df160_2 : decode cJ0_checkIndex_df160 2 = .ok (.getstatic 1053, 3) := by decide +kernel
theorem dJ0_checkIndex_df160_5 : decode cJ0_checkIndex_df160 5 = .ok (.invokestatic 1059, 3) := by decide +kernel
theorem dJ0_checkIndex_df160_8 : decode cJ0_checkIndex_df160 8 = .ok (.pop, 1) := by decide +kernel
theorem dJ0_checkIndex_df160_9 : decode cJ0_checkIndex_df160 9 = .ok (.return_, 1) := by decide +kernel
theorem dJ1_charAt_3b067_0 : decode cJ1_charAt_3b067 0 = .ok (.iload_n 1, 1) := by decide +kernel
theorem dJ1_charAt_3b067_1 : decode cJ1_charAt_3b067 1 = .ok (.aload_n 0, 1) := by decide +kernel
theorem dJ1_charAt_3b067_2 : decode cJ1_charAt_3b067 2 = .ok (.arraylength, 1) := by decide +kernel
theorem dJ1_charAt_3b067_3 : decode cJ1_charAt_3b067 3 = .ok (.invokestatic 9, 3) := by decide +kernel
theorem dJ1_charAt_3b067_6 : decode cJ1_charAt_3b067 6 = .ok (.aload_n 0, 1) := by decide +kernel
theorem dJ1_charAt_3b067_7 : decode cJ1_charAt_3b067 7 = .ok (.iload_n 1, 1) := by decide +kernel
theorem dJ1_charAt_3b067_8 : decode cJ1_charAt_3b067 8 = .ok (.baload, 1) := by decide +kernel
theorem dJ1_charAt_3b067_9 : decode cJ1_charAt_3b067 9 = .ok (.sipush 255, 3) := by decide +kernel
theorem dJ1_charAt_3b067_12 : decode cJ1_charAt_3b067 12 = .ok (.iand, 1) := by decide +kernel
theorem dJ1_charAt_3b067_13 : decode cJ1_charAt_3b067 13 = .ok (.i2c, 1) := by decide +kernel
theorem dJ1_charAt_3b067_14 : decode cJ1_charAt_3b067 14 = .ok (.ireturn, 1) := by decide +kernel
theorem dJ2_getChar_3b067_0 : decode cJ2_getChar_3b067 0 = .ok (.getstatic 44, 3) := by decide +kernel
theorem dJ2_getChar_3b067_3 : decode cJ2_getChar_3b067 3 = .ok (.ifCond .ne 25, 3) := by decide +kernel
theorem dJ2_getChar_3b067_6 : decode cJ2_getChar_3b067 6 = .ok (.iload_n 1, 1) := by decide +kernel
theorem dJ2_getChar_3b067_7 : decode cJ2_getChar_3b067 7 = .ok (.ifCond .lt 11, 3) := by decide +kernel
theorem dJ2_getChar_3b067_10 : decode cJ2_getChar_3b067 10 = .ok (.iload_n 1, 1) := by decide +kernel
theorem dJ2_getChar_3b067_11 : decode cJ2_getChar_3b067 11 = .ok (.aload_n 0, 1) := by decide +kernel
theorem dJ2_getChar_3b067_12 : decode cJ2_getChar_3b067 12 = .ok (.invokestatic 48, 3) := by decide +kernel
theorem dJ2_getChar_3b067_15 : decode cJ2_getChar_3b067 15 = .ok (.if_icmp .lt 13, 3) := by decide +kernel
theorem dJ2_getChar_3b067_18 : decode cJ2_getChar_3b067 18 = .ok (.new 52, 3) := by decide +kernel
theorem dJ2_getChar_3b067_21 : decode cJ2_getChar_3b067 21 = .ok (.dup, 1) := by decide +kernel
theorem dJ2_getChar_3b067_22 : decode cJ2_getChar_3b067 22 = .ok (.ldc 54, 2) := by decide +kernel
theorem dJ2_getChar_3b067_24 : decode cJ2_getChar_3b067 24 = .ok (.invokespecial 56, 3) := by decide +kernel
theorem dJ2_getChar_3b067_27 : decode cJ2_getChar_3b067 27 = .ok (.athrow, 1) := by decide +kernel
theorem dJ2_getChar_3b067_28 : decode cJ2_getChar_3b067 28 = .ok (.iload_n 1, 1) := by decide +kernel
theorem dJ2_getChar_3b067_29 : decode cJ2_getChar_3b067 29 = .ok (.iconst 1, 1) := by decide +kernel
theorem dJ2_getChar_3b067_30 : decode cJ2_getChar_3b067 30 = .ok (.ishl, 1) := by decide +kernel
theorem dJ2_getChar_3b067_31 : decode cJ2_getChar_3b067 31 = .ok (.istore_n 1, 1) := by decide +kernel
theorem dJ2_getChar_3b067_32 : decode cJ2_getChar_3b067 32 = .ok (.aload_n 0, 1) := by decide +kernel
theorem dJ2_getChar_3b067_33 : decode cJ2_getChar_3b067 33 = .ok (.iload_n 1, 1) := by decide +kernel
theorem dJ2_getChar_3b067_34 : decode cJ2_getChar_3b067 34 = .ok (.iinc 1 1, 3) := by decide +kernel
theorem dJ2_getChar_3b067_37 : decode cJ2_getChar_3b067 37 = .ok (.baload, 1) := by decide +kernel
theorem dJ2_getChar_3b067_38 : decode cJ2_getChar_3b067 38 = .ok (.sipush 255, 3) := by decide +kernel
theorem dJ2_getChar_3b067_41 : decode cJ2_getChar_3b067 41 = .ok (.iand, 1) := by decide +kernel
theorem dJ2_getChar_3b067_42 : decode cJ2_getChar_3b067 42 = .ok (.getstatic 59, 3) := by decide +kernel
theorem dJ2_getChar_3b067_45 : decode cJ2_getChar_3b067 45 = .ok (.ishl, 1) := by decide +kernel
theorem dJ2_getChar_3b067_46 : decode cJ2_getChar_3b067 46 = .ok (.aload_n 0, 1) := by decide +kernel
theorem dJ2_getChar_3b067_47 : decode cJ2_getChar_3b067 47 = .ok (.iload_n 1, 1) := by decide +kernel
theorem dJ2_getChar_3b067_48 : decode cJ2_getChar_3b067 48 = .ok (.baload, 1) := by decide +kernel
theorem dJ2_getChar_3b067_49 : decode cJ2_getChar_3b067 49 = .ok (.sipush 255, 3) := by decide +kernel
theorem dJ2_getChar_3b067_52 : decode cJ2_getChar_3b067 52 = .ok (.iand, 1) := by decide +kernel
theorem dJ2_getChar_3b067_53 : decode cJ2_getChar_3b067 53 = .ok (.getstatic 63, 3) := by decide +kernel
theorem dJ2_getChar_3b067_56 : decode cJ2_getChar_3b067 56 = .ok (.ishl, 1) := by decide +kernel
theorem dJ2_getChar_3b067_57 : decode cJ2_getChar_3b067 57 = .ok (.ior, 1) := by decide +kernel
theorem dJ2_getChar_3b067_58 : decode cJ2_getChar_3b067 58 = .ok (.i2c, 1) := by decide +kernel
theorem dJ2_getChar_3b067_59 : decode cJ2_getChar_3b067 59 = .ok (.ireturn, 1) := by decide +kernel
theorem dJ2_length_9d52b_0 : decode cJ2_length_9d52b 0 = .ok (.aload_n 0, 1) := by decide +kernel
theorem dJ2_length_9d52b_1 : decode cJ2_length_9d52b 1 = .ok (.arraylength, 1) := by decide +kernel
theorem dJ2_length_9d52b_2 : decode cJ2_length_9d52b 2 = .ok (.iconst 1, 1) := by decide +kernel
theorem dJ2_length_9d52b_3 : decode cJ2_length_9d52b 3 = .ok (.ishr, 1) := by decide +kernel
theorem dJ2_length_9d52b_4 : decode cJ2_length_9d52b 4 = .ok (.ireturn, 1) := by decide +kernel
theorem dJ2_charAt_3b067_0 : decode cJ2_charAt_3b067 0 = .ok (.iload_n 1, 1) := by decide +kernel
theorem dJ2_charAt_3b067_1 : decode cJ2_charAt_3b067 1 = .ok (.aload_n 0, 1) := by decide +kernel
theorem dJ2_charAt_3b067_2 : decode cJ2_charAt_3b067 2 = .ok (.invokestatic 67, 3) := by decide +kernel
theorem dJ2_charAt_3b067_5 : decode cJ2_charAt_3b067 5 = .ok (.aload_n 0, 1) := by decide +kernel
theorem dJ2_charAt_3b067_6 : decode cJ2_charAt_3b067 6 = .ok (.iload_n 1, 1) := by decide +kernel
theorem dJ2_charAt_3b067_7 : decode cJ2_charAt_3b067 7 = .ok (.invokestatic 71, 3) := by decide +kernel
theorem dJ2_charAt_3b067_10 : decode cJ2_charAt_3b067 10 = .ok (.ireturn, 1) := by decide +kernel
theorem dJ2_checkIndex_2214a_0 : decode cJ2_checkIndex_2214a 0 = .ok (.iload_n 0, 1) := by decide +kernel
theorem dJ2_checkIndex_2214a_1 : decode cJ2_checkIndex_2214a 1 = .ok (.aload_n 1, 1) := by decide +kernel
theorem dJ2_checkIndex_2214a_2 : decode cJ2_checkIndex_2214a 2 = .ok (.invokestatic 48, 3) := by decide +kernel
theorem dJ2_checkIndex_2214a_5 : decode cJ2_checkIndex_2214a 5 = .ok (.invokestatic 414, 3) := by decide +kernel
theorem dJ2_checkIndex_2214a_8 : decode cJ2_checkIndex_2214a 8 = .ok (.return_, 1) := by decide +kernel
theorem dJ3_checkIndex_8e157_0 : decode cJ3_checkIndex_8e157 0 = .ok (.iload_n 0, 1) := by decide +kernel
theorem dJ3_checkIndex_8e157_1 : decode cJ3_checkIndex_8e157 1 = .ok (.ifCond .lt 8, 3) := by decide +kernel
theorem dJ3_checkIndex_8e157_4 : decode cJ3_checkIndex_8e157 4 = .ok (.iload_n 0, 1) := by decide +kernel
theorem dJ3_checkIndex_8e157_5 : decode cJ3_checkIndex_8e157 5 = .ok (.iload_n 1, 1) := by decide +kernel
theorem dJ3_checkIndex_8e157_6 : decode cJ3_checkIndex_8e157 6 = .ok (.if_icmp .lt 10, 3) := by decide +kernel
theorem dJ3_checkIndex_8e157_9 : decode cJ3_checkIndex_8e157 9 = .ok (.aload_n 2, 1) := by decide +kernel
theorem dJ3_checkIndex_8e157_10 : decode cJ3_checkIndex_8e157 10 = .ok (.iload_n 0, 1) := by decide +kernel
theorem dJ3_checkIndex_8e157_11 : decode cJ3_checkIndex_8e157 11 = .ok (.iload_n 1, 1) := by decide +kernel
theorem dJ3_checkIndex_8e157_12 : decode cJ3_checkIndex_8e157 12 = .ok (.invokestatic 95, 3) := by decide +kernel
theorem dJ3_checkIndex_8e157_15 : decode cJ3_checkIndex_8e157 15 = .ok (.athrow, 1) := by decide +kernel
theorem dJ3_checkIndex_8e157_16 : decode cJ3_checkIndex_8e157 16 = .ok (.iload_n 0, 1) := by decide +kernel
theorem dJ3_checkIndex_8e157_17 : decode cJ3_checkIndex_8e157 17 = .ok (.ireturn, 1) := by decide +kernel
theorem dL_led_0 : decode cL_led 0 = .ok (.aload_n 2, 1) := by decide +kernel
theorem dL_led_1 : decode cL_led 1 = .ok (.iconst 0, 1) := by decide +kernel
theorem dL_led_2 : decode cL_led 2 = .ok (.aload_n 0, 1) := by decide +kernel
theorem dL_led_3 : decode cL_led 3 = .ok (.iload_n 1, 1) := by decide +kernel
theorem dL_led_4 : decode cL_led 4 = .ok (.invokevirtual 7, 3) := by decide +kernel
theorem dL_led_7 : decode cL_led 7 = .ok (.i2l, 1) := by decide +kernel
theorem dL_led_8 : decode cL_led 8 = .ok (.lastore, 1) := by decide +kernel
theorem dL_led_9 : decode cL_led 9 = .ok (.goto 6, 3) := by decide +kernel
theorem dL_led_12 : decode cL_led 12 = .ok (.astore_n 3, 1) := by decide +kernel
theorem dL_led_13 : decode cL_led 13 = .ok (.iconst 1, 1) := by decide +kernel
theorem dL_led_14 : decode cL_led 14 = .ok (.ireturn, 1) := by decide +kernel
theorem dL_led_15 : decode cL_led 15 = .ok (.iconst 0, 1) := by decide +kernel
theorem dL_led_16 : decode cL_led 16 = .ok (.ireturn, 1) := by decide +kernel
theorem dL_law_0 : decode cL_law 0 = .ok (.new 8, 3) := by decide +kernel
theorem dL_law_3 : decode cL_law 3 = .ok (.dup, 1) := by decide +kernel
theorem dL_law_4 : decode cL_law 4 = .ok (.invokespecial 15, 3) := by decide +kernel
theorem dL_law_7 : decode cL_law 7 = .ok (.astore_n 1, 1) := by decide +kernel
theorem dL_law_8 : decode cL_law 8 = .ok (.new 16, 3) := by decide +kernel
theorem dL_law_11 : decode cL_law 11 = .ok (.dup, 1) := by decide +kernel
theorem dL_law_12 : decode cL_law 12 = .ok (.invokespecial 18, 3) := by decide +kernel
theorem dL_law_15 : decode cL_law 15 = .ok (.astore_n 2, 1) := by decide +kernel
theorem dL_law_16 : decode cL_law 16 = .ok (.iconst 1, 1) := by decide +kernel
theorem dL_law_17 : decode cL_law 17 = .ok (.newarray .long, 2) := by decide +kernel
theorem dL_law_19 : decode cL_law 19 = .ok (.astore_n 3, 1) := by decide +kernel
theorem dL_law_20 : decode cL_law 20 = .ok (.iconst 0, 1) := by decide +kernel
theorem dL_law_21 : decode cL_law 21 = .ok (.istore 4, 2) := by decide +kernel
theorem dL_law_23 : decode cL_law 23 = .ok (.iload 4, 2) := by decide +kernel
theorem dL_law_25 : decode cL_law 25 = .ok (.aload_n 0, 1) := by decide +kernel
theorem dL_law_26 : decode cL_law 26 = .ok (.arraylength, 1) := by decide +kernel
theorem dL_law_27 : decode cL_law 27 = .ok (.bipush 8, 2) := by decide +kernel
theorem dL_law_29 : decode cL_law 29 = .ok (.isub, 1) := by decide +kernel
theorem dL_law_30 : decode cL_law 30 = .ok (.if_icmp .gt 2317, 3) := by decide +kernel
theorem dL_law_33 : decode cL_law 33 = .ok (.aload_n 0, 1) := by decide +kernel
theorem dL_law_34 : decode cL_law 34 = .ok (.iload 4, 2) := by decide +kernel
theorem dL_law_36 : decode cL_law 36 = .ok (.iaload, 1) := by decide +kernel
theorem dL_law_37 : decode cL_law 37 = .ok (.bipush 63, 2) := by decide +kernel
theorem dL_law_39 : decode cL_law 39 = .ok (.iand, 1) := by decide +kernel
theorem dL_law_40 : decode cL_law 40 = .ok (.tableswitch 2301 0 39 #[176, 249, 274, 287, 300, 417, 520, 623, 672, 721, 794, 855, 944, 1005, 1066, 1143, 1192, 1309, 1396, 1499, 1572, 1645, 1732, 1793, 1818, 1855, 1868, 1929, 1978, 2003, 2056, 2097, 2110, 2123, 2136, 2161, 2198, 2235, 2263, 2288], 176) := by decide +kernel
theorem dL_law_216 : decode cL_law 216 = .ok (.aload_n 1, 1) := by decide +kernel
theorem dL_law_217 : decode cL_law 217 = .ok (.aload_n 0, 1) := by decide +kernel
theorem dL_law_218 : decode cL_law 218 = .ok (.iload 4, 2) := by decide +kernel
theorem dL_law_220 : decode cL_law 220 = .ok (.iconst 1, 1) := by decide +kernel
theorem dL_law_221 : decode cL_law 221 = .ok (.iadd, 1) := by decide +kernel
theorem dL_law_222 : decode cL_law 222 = .ok (.iaload, 1) := by decide +kernel
theorem dL_law_223 : decode cL_law 223 = .ok (.aload_n 0, 1) := by decide +kernel
theorem dL_law_224 : decode cL_law 224 = .ok (.iload 4, 2) := by decide +kernel
theorem dL_law_226 : decode cL_law 226 = .ok (.iconst 2, 1) := by decide +kernel
theorem dL_law_227 : decode cL_law 227 = .ok (.iadd, 1) := by decide +kernel
theorem dL_law_228 : decode cL_law 228 = .ok (.iaload, 1) := by decide +kernel
theorem dL_law_229 : decode cL_law 229 = .ok (.aload_n 0, 1) := by decide +kernel
theorem dL_law_230 : decode cL_law 230 = .ok (.iload 4, 2) := by decide +kernel
theorem dL_law_232 : decode cL_law 232 = .ok (.iconst 3, 1) := by decide +kernel
theorem dL_law_233 : decode cL_law 233 = .ok (.iadd, 1) := by decide +kernel
theorem dL_law_234 : decode cL_law 234 = .ok (.iaload, 1) := by decide +kernel
theorem dL_law_235 : decode cL_law 235 = .ok (.aload_n 0, 1) := by decide +kernel
theorem dL_law_236 : decode cL_law 236 = .ok (.iload 4, 2) := by decide +kernel
theorem dL_law_238 : decode cL_law 238 = .ok (.iconst 4, 1) := by decide +kernel
theorem dL_law_239 : decode cL_law 239 = .ok (.iadd, 1) := by decide +kernel
theorem dL_law_240 : decode cL_law 240 = .ok (.iaload, 1) := by decide +kernel
theorem dL_law_241 : decode cL_law 241 = .ok (.aload_n 0, 1) := by decide +kernel
theorem dL_law_242 : decode cL_law 242 = .ok (.iload 4, 2) := by decide +kernel
theorem dL_law_244 : decode cL_law 244 = .ok (.iconst 5, 1) := by decide +kernel
theorem dL_law_245 : decode cL_law 245 = .ok (.iadd, 1) := by decide +kernel
theorem dL_law_246 : decode cL_law 246 = .ok (.iaload, 1) := by decide +kernel
theorem dL_law_247 : decode cL_law 247 = .ok (.invokevirtual 19, 3) := by decide +kernel
theorem dL_law_250 : decode cL_law 250 = .ok (.pop, 1) := by decide +kernel
theorem dL_law_251 : decode cL_law 251 = .ok (.aload_n 2, 1) := by decide +kernel
theorem dL_law_252 : decode cL_law 252 = .ok (.aload_n 0, 1) := by decide +kernel
theorem dL_law_253 : decode cL_law 253 = .ok (.iload 4, 2) := by decide +kernel
theorem dL_law_255 : decode cL_law 255 = .ok (.iconst 1, 1) := by decide +kernel
theorem dL_law_256 : decode cL_law 256 = .ok (.iadd, 1) := by decide +kernel
theorem dL_law_257 : decode cL_law 257 = .ok (.iaload, 1) := by decide +kernel
theorem dL_law_258 : decode cL_law 258 = .ok (.aload_n 0, 1) := by decide +kernel
theorem dL_law_259 : decode cL_law 259 = .ok (.iload 4, 2) := by decide +kernel
theorem dL_law_261 : decode cL_law 261 = .ok (.iconst 2, 1) := by decide +kernel
theorem dL_law_262 : decode cL_law 262 = .ok (.iadd, 1) := by decide +kernel
theorem dL_law_263 : decode cL_law 263 = .ok (.iaload, 1) := by decide +kernel
theorem dL_law_264 : decode cL_law 264 = .ok (.aload_n 0, 1) := by decide +kernel
theorem dL_law_265 : decode cL_law 265 = .ok (.iload 4, 2) := by decide +kernel
theorem dL_law_267 : decode cL_law 267 = .ok (.iconst 3, 1) := by decide +kernel
theorem dL_law_268 : decode cL_law 268 = .ok (.iadd, 1) := by decide +kernel
theorem dL_law_269 : decode cL_law 269 = .ok (.iaload, 1) := by decide +kernel
theorem dL_law_270 : decode cL_law 270 = .ok (.aload_n 0, 1) := by decide +kernel
theorem dL_law_271 : decode cL_law 271 = .ok (.iload 4, 2) := by decide +kernel
theorem dL_law_273 : decode cL_law 273 = .ok (.iconst 4, 1) := by decide +kernel
theorem dL_law_274 : decode cL_law 274 = .ok (.iadd, 1) := by decide +kernel
theorem dL_law_275 : decode cL_law 275 = .ok (.iaload, 1) := by decide +kernel
theorem dL_law_276 : decode cL_law 276 = .ok (.aload_n 0, 1) := by decide +kernel
theorem dL_law_277 : decode cL_law 277 = .ok (.iload 4, 2) := by decide +kernel
theorem dL_law_279 : decode cL_law 279 = .ok (.iconst 5, 1) := by decide +kernel
theorem dL_law_280 : decode cL_law 280 = .ok (.iadd, 1) := by decide +kernel
theorem dL_law_281 : decode cL_law 281 = .ok (.iaload, 1) := by decide +kernel
theorem dL_law_282 : decode cL_law 282 = .ok (.invokevirtual 23, 3) := by decide +kernel
theorem dL_law_285 : decode cL_law 285 = .ok (.pop, 1) := by decide +kernel
theorem dL_law_286 : decode cL_law 286 = .ok (.goto 2055, 3) := by decide +kernel
theorem dL_law_289 : decode cL_law 289 = .ok (.aload_n 1, 1) := by decide +kernel
theorem dL_law_290 : decode cL_law 290 = .ok (.aload_n 0, 1) := by decide +kernel
theorem dL_law_291 : decode cL_law 291 = .ok (.iload 4, 2) := by decide +kernel
theorem dL_law_293 : decode cL_law 293 = .ok (.iconst 1, 1) := by decide +kernel
theorem dL_law_294 : decode cL_law 294 = .ok (.iadd, 1) := by decide +kernel
theorem dL_law_295 : decode cL_law 295 = .ok (.iaload, 1) := by decide +kernel
theorem dL_law_296 : decode cL_law 296 = .ok (.invokevirtual 24, 3) := by decide +kernel
theorem dL_law_299 : decode cL_law 299 = .ok (.pop, 1) := by decide +kernel
theorem dL_law_300 : decode cL_law 300 = .ok (.aload_n 2, 1) := by decide +kernel
theorem dL_law_301 : decode cL_law 301 = .ok (.aload_n 0, 1) := by decide +kernel
theorem dL_law_302 : decode cL_law 302 = .ok (.iload 4, 2) := by decide +kernel
theorem dL_law_304 : decode cL_law 304 = .ok (.iconst 1, 1) := by decide +kernel
theorem dL_law_305 : decode cL_law 305 = .ok (.iadd, 1) := by decide +kernel
theorem dL_law_306 : decode cL_law 306 = .ok (.iaload, 1) := by decide +kernel
theorem dL_law_307 : decode cL_law 307 = .ok (.invokevirtual 27, 3) := by decide +kernel
theorem dL_law_310 : decode cL_law 310 = .ok (.pop, 1) := by decide +kernel
theorem dL_law_311 : decode cL_law 311 = .ok (.goto 2030, 3) := by decide +kernel
theorem dL_law_314 : decode cL_law 314 = .ok (.aload_n 1, 1) := by decide +kernel
theorem dL_law_315 : decode cL_law 315 = .ok (.invokevirtual 28, 3) := by decide +kernel
theorem dL_law_318 : decode cL_law 318 = .ok (.pop, 1) := by decide +kernel
theorem dL_law_319 : decode cL_law 319 = .ok (.aload_n 2, 1) := by decide +kernel
theorem dL_law_320 : decode cL_law 320 = .ok (.invokevirtual 32, 3) := by decide +kernel
theorem dL_law_323 : decode cL_law 323 = .ok (.pop, 1) := by decide +kernel
theorem dL_law_324 : decode cL_law 324 = .ok (.goto 2017, 3) := by decide +kernel
theorem dL_law_327 : decode cL_law 327 = .ok (.aload_n 1, 1) := by decide +kernel
theorem dL_law_328 : decode cL_law 328 = .ok (.invokevirtual 33, 3) := by decide +kernel
theorem dL_law_331 : decode cL_law 331 = .ok (.pop, 1) := by decide +kernel
theorem dL_law_332 : decode cL_law 332 = .ok (.aload_n 2, 1) := by decide +kernel
theorem dL_law_333 : decode cL_law 333 = .ok (.invokevirtual 36, 3) := by decide +kernel
theorem dL_law_336 : decode cL_law 336 = .ok (.pop, 1) := by decide +kernel
theorem dL_law_337 : decode cL_law 337 = .ok (.goto 2004, 3) := by decide +kernel
theorem dL_law_340 : decode cL_law 340 = .ok (.aload_n 1, 1) := by decide +kernel
theorem dL_law_341 : decode cL_law 341 = .ok (.aload_n 0, 1) := by decide +kernel
theorem dL_law_342 : decode cL_law 342 = .ok (.iload 4, 2) := by decide +kernel
theorem dL_law_344 : decode cL_law 344 = .ok (.iconst 1, 1) := by decide +kernel
theorem dL_law_345 : decode cL_law 345 = .ok (.iadd, 1) := by decide +kernel
theorem dL_law_346 : decode cL_law 346 = .ok (.iaload, 1) := by decide +kernel
theorem dL_law_347 : decode cL_law 347 = .ok (.aload_n 0, 1) := by decide +kernel
theorem dL_law_348 : decode cL_law 348 = .ok (.iload 4, 2) := by decide +kernel
theorem dL_law_350 : decode cL_law 350 = .ok (.iconst 2, 1) := by decide +kernel
theorem dL_law_351 : decode cL_law 351 = .ok (.iadd, 1) := by decide +kernel
theorem dL_law_352 : decode cL_law 352 = .ok (.iaload, 1) := by decide +kernel
theorem dL_law_353 : decode cL_law 353 = .ok (.aload_n 0, 1) := by decide +kernel
theorem dL_law_354 : decode cL_law 354 = .ok (.iload 4, 2) := by decide +kernel
theorem dL_law_356 : decode cL_law 356 = .ok (.iconst 3, 1) := by decide +kernel
theorem dL_law_357 : decode cL_law 357 = .ok (.iadd, 1) := by decide +kernel
theorem dL_law_358 : decode cL_law 358 = .ok (.iaload, 1) := by decide +kernel
theorem dL_law_359 : decode cL_law 359 = .ok (.aload_n 0, 1) := by decide +kernel
theorem dL_law_360 : decode cL_law 360 = .ok (.iload 4, 2) := by decide +kernel
theorem dL_law_362 : decode cL_law 362 = .ok (.iconst 4, 1) := by decide +kernel
theorem dL_law_363 : decode cL_law 363 = .ok (.iadd, 1) := by decide +kernel
theorem dL_law_364 : decode cL_law 364 = .ok (.iaload, 1) := by decide +kernel
theorem dL_law_365 : decode cL_law 365 = .ok (.aload_n 0, 1) := by decide +kernel
theorem dL_law_366 : decode cL_law 366 = .ok (.iload 4, 2) := by decide +kernel
theorem dL_law_368 : decode cL_law 368 = .ok (.iconst 5, 1) := by decide +kernel
theorem dL_law_369 : decode cL_law 369 = .ok (.iadd, 1) := by decide +kernel
theorem dL_law_370 : decode cL_law 370 = .ok (.iaload, 1) := by decide +kernel
theorem dL_law_371 : decode cL_law 371 = .ok (.aload_n 0, 1) := by decide +kernel
theorem dL_law_372 : decode cL_law 372 = .ok (.iload 4, 2) := by decide +kernel
theorem dL_law_374 : decode cL_law 374 = .ok (.bipush 6, 2) := by decide +kernel
theorem dL_law_376 : decode cL_law 376 = .ok (.iadd, 1) := by decide +kernel
theorem dL_law_377 : decode cL_law 377 = .ok (.iaload, 1) := by decide +kernel
theorem dL_law_378 : decode cL_law 378 = .ok (.aload_n 0, 1) := by decide +kernel
theorem dL_law_379 : decode cL_law 379 = .ok (.iload 4, 2) := by decide +kernel
theorem dL_law_381 : decode cL_law 381 = .ok (.bipush 7, 2) := by decide +kernel
theorem dL_law_383 : decode cL_law 383 = .ok (.iadd, 1) := by decide +kernel
theorem dL_law_384 : decode cL_law 384 = .ok (.iaload, 1) := by decide +kernel
theorem dL_law_385 : decode cL_law 385 = .ok (.ifCond .eq 7, 3) := by decide +kernel
theorem dL_law_388 : decode cL_law 388 = .ok (.iconst 1, 1) := by decide +kernel
theorem dL_law_389 : decode cL_law 389 = .ok (.goto 4, 3) := by decide +kernel
theorem dL_law_392 : decode cL_law 392 = .ok (.iconst 0, 1) := by decide +kernel
theorem dL_law_393 : decode cL_law 393 = .ok (.invokevirtual 37, 3) := by decide +kernel
theorem dL_law_396 : decode cL_law 396 = .ok (.pop2, 1) := by decide +kernel
theorem dL_law_397 : decode cL_law 397 = .ok (.aload_n 2, 1) := by decide +kernel
theorem dL_law_398 : decode cL_law 398 = .ok (.aload_n 0, 1) := by decide +kernel
theorem dL_law_399 : decode cL_law 399 = .ok (.iload 4, 2) := by decide +kernel
theorem dL_law_401 : decode cL_law 401 = .ok (.iconst 1, 1) := by decide +kernel
theorem dL_law_402 : decode cL_law 402 = .ok (.iadd, 1) := by decide +kernel
theorem dL_law_403 : decode cL_law 403 = .ok (.iaload, 1) := by decide +kernel
theorem dL_law_404 : decode cL_law 404 = .ok (.aload_n 0, 1) := by decide +kernel
theorem dL_law_405 : decode cL_law 405 = .ok (.iload 4, 2) := by decide +kernel
theorem dL_law_407 : decode cL_law 407 = .ok (.iconst 2, 1) := by decide +kernel
theorem dL_law_408 : decode cL_law 408 = .ok (.iadd, 1) := by decide +kernel
theorem dL_law_409 : decode cL_law 409 = .ok (.iaload, 1) := by decide +kernel
theorem dL_law_410 : decode cL_law 410 = .ok (.aload_n 0, 1) := by decide +kernel
theorem dL_law_411 : decode cL_law 411 = .ok (.iload 4, 2) := by decide +kernel
theorem dL_law_413 : decode cL_law 413 = .ok (.iconst 3, 1) := by decide +kernel
theorem dL_law_414 : decode cL_law 414 = .ok (.iadd, 1) := by decide +kernel
theorem dL_law_415 : decode cL_law 415 = .ok (.iaload, 1) := by decide +kernel
theorem dL_law_416 : decode cL_law 416 = .ok (.aload_n 0, 1) := by decide +kernel
theorem dL_law_417 : decode cL_law 417 = .ok (.iload 4, 2) := by decide +kernel
theorem dL_law_419 : decode cL_law 419 = .ok (.iconst 4, 1) := by decide +kernel
theorem dL_law_420 : decode cL_law 420 = .ok (.iadd, 1) := by decide +kernel
theorem dL_law_421 : decode cL_law 421 = .ok (.iaload, 1) := by decide +kernel
theorem dL_law_422 : decode cL_law 422 = .ok (.aload_n 0, 1) := by decide +kernel
theorem dL_law_423 : decode cL_law 423 = .ok (.iload 4, 2) := by decide +kernel
theorem dL_law_425 : decode cL_law 425 = .ok (.iconst 5, 1) := by decide +kernel
theorem dL_law_426 : decode cL_law 426 = .ok (.iadd, 1) := by decide +kernel
theorem dL_law_427 : decode cL_law 427 = .ok (.iaload, 1) := by decide +kernel
theorem dL_law_428 : decode cL_law 428 = .ok (.aload_n 0, 1) := by decide +kernel
theorem dL_law_429 : decode cL_law 429 = .ok (.iload 4, 2) := by decide +kernel
theorem dL_law_431 : decode cL_law 431 = .ok (.bipush 6, 2) := by decide +kernel
theorem dL_law_433 : decode cL_law 433 = .ok (.iadd, 1) := by decide +kernel
theorem dL_law_434 : decode cL_law 434 = .ok (.iaload, 1) := by decide +kernel
theorem dL_law_435 : decode cL_law 435 = .ok (.aload_n 0, 1) := by decide +kernel
theorem dL_law_436 : decode cL_law 436 = .ok (.iload 4, 2) := by decide +kernel
theorem dL_law_438 : decode cL_law 438 = .ok (.bipush 7, 2) := by decide +kernel
theorem dL_law_440 : decode cL_law 440 = .ok (.iadd, 1) := by decide +kernel
theorem dL_law_441 : decode cL_law 441 = .ok (.iaload, 1) := by decide +kernel
theorem dL_law_442 : decode cL_law 442 = .ok (.ifCond .eq 7, 3) := by decide +kernel
theorem dL_law_445 : decode cL_law 445 = .ok (.iconst 1, 1) := by decide +kernel
theorem dL_law_446 : decode cL_law 446 = .ok (.goto 4, 3) := by decide +kernel
theorem dL_law_449 : decode cL_law 449 = .ok (.iconst 0, 1) := by decide +kernel
theorem dL_law_450 : decode cL_law 450 = .ok (.invokevirtual 41, 3) := by decide +kernel
theorem dL_law_453 : decode cL_law 453 = .ok (.pop2, 1) := by decide +kernel
theorem dL_law_454 : decode cL_law 454 = .ok (.goto 1887, 3) := by decide +kernel
theorem dL_law_457 : decode cL_law 457 = .ok (.aload_n 1, 1) := by decide +kernel
theorem dL_law_458 : decode cL_law 458 = .ok (.aload_n 0, 1) := by decide +kernel
theorem dL_law_459 : decode cL_law 459 = .ok (.iload 4, 2) := by decide +kernel
theorem dL_law_461 : decode cL_law 461 = .ok (.iconst 1, 1) := by decide +kernel
theorem dL_law_462 : decode cL_law 462 = .ok (.iadd, 1) := by decide +kernel
theorem dL_law_463 : decode cL_law 463 = .ok (.iaload, 1) := by decide +kernel
theorem dL_law_464 : decode cL_law 464 = .ok (.aload_n 0, 1) := by decide +kernel
theorem dL_law_465 : decode cL_law 465 = .ok (.iload 4, 2) := by decide +kernel
theorem dL_law_467 : decode cL_law 467 = .ok (.iconst 2, 1) := by decide +kernel
theorem dL_law_468 : decode cL_law 468 = .ok (.iadd, 1) := by decide +kernel
theorem dL_law_469 : decode cL_law 469 = .ok (.iaload, 1) := by decide +kernel
theorem dL_law_470 : decode cL_law 470 = .ok (.aload_n 0, 1) := by decide +kernel
theorem dL_law_471 : decode cL_law 471 = .ok (.iload 4, 2) := by decide +kernel
theorem dL_law_473 : decode cL_law 473 = .ok (.iconst 3, 1) := by decide +kernel
theorem dL_law_474 : decode cL_law 474 = .ok (.iadd, 1) := by decide +kernel
theorem dL_law_475 : decode cL_law 475 = .ok (.iaload, 1) := by decide +kernel
theorem dL_law_476 : decode cL_law 476 = .ok (.aload_n 0, 1) := by decide +kernel
theorem dL_law_477 : decode cL_law 477 = .ok (.iload 4, 2) := by decide +kernel
theorem dL_law_479 : decode cL_law 479 = .ok (.iconst 4, 1) := by decide +kernel
theorem dL_law_480 : decode cL_law 480 = .ok (.iadd, 1) := by decide +kernel
theorem dL_law_481 : decode cL_law 481 = .ok (.iaload, 1) := by decide +kernel
theorem dL_law_482 : decode cL_law 482 = .ok (.aload_n 0, 1) := by decide +kernel
theorem dL_law_483 : decode cL_law 483 = .ok (.iload 4, 2) := by decide +kernel
theorem dL_law_485 : decode cL_law 485 = .ok (.iconst 5, 1) := by decide +kernel
theorem dL_law_486 : decode cL_law 486 = .ok (.iadd, 1) := by decide +kernel
theorem dL_law_487 : decode cL_law 487 = .ok (.iaload, 1) := by decide +kernel
theorem dL_law_488 : decode cL_law 488 = .ok (.aload_n 0, 1) := by decide +kernel
theorem dL_law_489 : decode cL_law 489 = .ok (.iload 4, 2) := by decide +kernel
theorem dL_law_491 : decode cL_law 491 = .ok (.bipush 6, 2) := by decide +kernel
theorem dL_law_493 : decode cL_law 493 = .ok (.iadd, 1) := by decide +kernel
theorem dL_law_494 : decode cL_law 494 = .ok (.iaload, 1) := by decide +kernel
theorem dL_law_495 : decode cL_law 495 = .ok (.ifCond .eq 7, 3) := by decide +kernel
theorem dL_law_498 : decode cL_law 498 = .ok (.iconst 1, 1) := by decide +kernel
theorem dL_law_499 : decode cL_law 499 = .ok (.goto 4, 3) := by decide +kernel
theorem dL_law_502 : decode cL_law 502 = .ok (.iconst 0, 1) := by decide +kernel
theorem dL_law_503 : decode cL_law 503 = .ok (.invokevirtual 42, 3) := by decide +kernel
theorem dL_law_506 : decode cL_law 506 = .ok (.pop2, 1) := by decide +kernel
theorem dL_law_507 : decode cL_law 507 = .ok (.aload_n 2, 1) := by decide +kernel
theorem dL_law_508 : decode cL_law 508 = .ok (.aload_n 0, 1) := by decide +kernel
theorem dL_law_509 : decode cL_law 509 = .ok (.iload 4, 2) := by decide +kernel
theorem dL_law_511 : decode cL_law 511 = .ok (.iconst 1, 1) := by decide +kernel
theorem dL_law_512 : decode cL_law 512 = .ok (.iadd, 1) := by decide +kernel
theorem dL_law_513 : decode cL_law 513 = .ok (.iaload, 1) := by decide +kernel
theorem dL_law_514 : decode cL_law 514 = .ok (.aload_n 0, 1) := by decide +kernel
theorem dL_law_515 : decode cL_law 515 = .ok (.iload 4, 2) := by decide +kernel
theorem dL_law_517 : decode cL_law 517 = .ok (.iconst 2, 1) := by decide +kernel
theorem dL_law_518 : decode cL_law 518 = .ok (.iadd, 1) := by decide +kernel
theorem dL_law_519 : decode cL_law 519 = .ok (.iaload, 1) := by decide +kernel
theorem dL_law_520 : decode cL_law 520 = .ok (.aload_n 0, 1) := by decide +kernel
theorem dL_law_521 : decode cL_law 521 = .ok (.iload 4, 2) := by decide +kernel
theorem dL_law_523 : decode cL_law 523 = .ok (.iconst 3, 1) := by decide +kernel
theorem dL_law_524 : decode cL_law 524 = .ok (.iadd, 1) := by decide +kernel
theorem dL_law_525 : decode cL_law 525 = .ok (.iaload, 1) := by decide +kernel
theorem dL_law_526 : decode cL_law 526 = .ok (.aload_n 0, 1) := by decide +kernel
theorem dL_law_527 : decode cL_law 527 = .ok (.iload 4, 2) := by decide +kernel
theorem dL_law_529 : decode cL_law 529 = .ok (.iconst 4, 1) := by decide +kernel
theorem dL_law_530 : decode cL_law 530 = .ok (.iadd, 1) := by decide +kernel
theorem dL_law_531 : decode cL_law 531 = .ok (.iaload, 1) := by decide +kernel
theorem dL_law_532 : decode cL_law 532 = .ok (.aload_n 0, 1) := by decide +kernel
theorem dL_law_533 : decode cL_law 533 = .ok (.iload 4, 2) := by decide +kernel
theorem dL_law_535 : decode cL_law 535 = .ok (.iconst 5, 1) := by decide +kernel
theorem dL_law_536 : decode cL_law 536 = .ok (.iadd, 1) := by decide +kernel
theorem dL_law_537 : decode cL_law 537 = .ok (.iaload, 1) := by decide +kernel
theorem dL_law_538 : decode cL_law 538 = .ok (.aload_n 0, 1) := by decide +kernel
theorem dL_law_539 : decode cL_law 539 = .ok (.iload 4, 2) := by decide +kernel
theorem dL_law_541 : decode cL_law 541 = .ok (.bipush 6, 2) := by decide +kernel
theorem dL_law_543 : decode cL_law 543 = .ok (.iadd, 1) := by decide +kernel
theorem dL_law_544 : decode cL_law 544 = .ok (.iaload, 1) := by decide +kernel
theorem dL_law_545 : decode cL_law 545 = .ok (.ifCond .eq 7, 3) := by decide +kernel
theorem dL_law_548 : decode cL_law 548 = .ok (.iconst 1, 1) := by decide +kernel
theorem dL_law_549 : decode cL_law 549 = .ok (.goto 4, 3) := by decide +kernel
theorem dL_law_552 : decode cL_law 552 = .ok (.iconst 0, 1) := by decide +kernel
theorem dL_law_553 : decode cL_law 553 = .ok (.invokevirtual 46, 3) := by decide +kernel
theorem dL_law_556 : decode cL_law 556 = .ok (.pop2, 1) := by decide +kernel
theorem dL_law_557 : decode cL_law 557 = .ok (.goto 1784, 3) := by decide +kernel
theorem dL_law_560 : decode cL_law 560 = .ok (.aload_n 1, 1) := by decide +kernel
theorem dL_law_561 : decode cL_law 561 = .ok (.aload_n 0, 1) := by decide +kernel
theorem dL_law_562 : decode cL_law 562 = .ok (.iload 4, 2) := by decide +kernel
theorem dL_law_564 : decode cL_law 564 = .ok (.iconst 1, 1) := by decide +kernel
theorem dL_law_565 : decode cL_law 565 = .ok (.iadd, 1) := by decide +kernel
theorem dL_law_566 : decode cL_law 566 = .ok (.iaload, 1) := by decide +kernel
theorem dL_law_567 : decode cL_law 567 = .ok (.aload_n 0, 1) := by decide +kernel
theorem dL_law_568 : decode cL_law 568 = .ok (.iload 4, 2) := by decide +kernel
theorem dL_law_570 : decode cL_law 570 = .ok (.iconst 2, 1) := by decide +kernel
theorem dL_law_571 : decode cL_law 571 = .ok (.iadd, 1) := by decide +kernel
theorem dL_law_572 : decode cL_law 572 = .ok (.iaload, 1) := by decide +kernel
theorem dL_law_573 : decode cL_law 573 = .ok (.aload_n 0, 1) := by decide +kernel
theorem dL_law_574 : decode cL_law 574 = .ok (.iload 4, 2) := by decide +kernel
theorem dL_law_576 : decode cL_law 576 = .ok (.iconst 3, 1) := by decide +kernel
theorem dL_law_577 : decode cL_law 577 = .ok (.iadd, 1) := by decide +kernel
theorem dL_law_578 : decode cL_law 578 = .ok (.iaload, 1) := by decide +kernel
theorem dL_law_579 : decode cL_law 579 = .ok (.aload_n 0, 1) := by decide +kernel
theorem dL_law_580 : decode cL_law 580 = .ok (.iload 4, 2) := by decide +kernel
theorem dL_law_582 : decode cL_law 582 = .ok (.iconst 4, 1) := by decide +kernel
theorem dL_law_583 : decode cL_law 583 = .ok (.iadd, 1) := by decide +kernel
theorem dL_law_584 : decode cL_law 584 = .ok (.iaload, 1) := by decide +kernel
theorem dL_law_585 : decode cL_law 585 = .ok (.aload_n 0, 1) := by decide +kernel
theorem dL_law_586 : decode cL_law 586 = .ok (.iload 4, 2) := by decide +kernel
theorem dL_law_588 : decode cL_law 588 = .ok (.iconst 5, 1) := by decide +kernel
theorem dL_law_589 : decode cL_law 589 = .ok (.iadd, 1) := by decide +kernel
theorem dL_law_590 : decode cL_law 590 = .ok (.iaload, 1) := by decide +kernel
theorem dL_law_591 : decode cL_law 591 = .ok (.aload_n 0, 1) := by decide +kernel
theorem dL_law_592 : decode cL_law 592 = .ok (.iload 4, 2) := by decide +kernel
theorem dL_law_594 : decode cL_law 594 = .ok (.bipush 6, 2) := by decide +kernel
theorem dL_law_596 : decode cL_law 596 = .ok (.iadd, 1) := by decide +kernel
theorem dL_law_597 : decode cL_law 597 = .ok (.iaload, 1) := by decide +kernel
theorem dL_law_598 : decode cL_law 598 = .ok (.ifCond .eq 7, 3) := by decide +kernel
theorem dL_law_601 : decode cL_law 601 = .ok (.iconst 1, 1) := by decide +kernel
theorem dL_law_602 : decode cL_law 602 = .ok (.goto 4, 3) := by decide +kernel
theorem dL_law_605 : decode cL_law 605 = .ok (.iconst 0, 1) := by decide +kernel
theorem dL_law_606 : decode cL_law 606 = .ok (.invokevirtual 47, 3) := by decide +kernel
theorem dL_law_609 : decode cL_law 609 = .ok (.pop2, 1) := by decide +kernel
theorem dL_law_610 : decode cL_law 610 = .ok (.aload_n 2, 1) := by decide +kernel
theorem dL_law_611 : decode cL_law 611 = .ok (.aload_n 0, 1) := by decide +kernel
theorem dL_law_612 : decode cL_law 612 = .ok (.iload 4, 2) := by decide +kernel
theorem dL_law_614 : decode cL_law 614 = .ok (.iconst 1, 1) := by decide +kernel
theorem dL_law_615 : decode cL_law 615 = .ok (.iadd, 1) := by decide +kernel
theorem dL_law_616 : decode cL_law 616 = .ok (.iaload, 1) := by decide +kernel
theorem dL_law_617 : decode cL_law 617 = .ok (.aload_n 0, 1) := by decide +kernel
theorem dL_law_618 : decode cL_law 618 = .ok (.iload 4, 2) := by decide +kernel
theorem dL_law_620 : decode cL_law 620 = .ok (.iconst 2, 1) := by decide +kernel
theorem dL_law_621 : decode cL_law 621 = .ok (.iadd, 1) := by decide +kernel
theorem dL_law_622 : decode cL_law 622 = .ok (.iaload, 1) := by decide +kernel
theorem dL_law_623 : decode cL_law 623 = .ok (.aload_n 0, 1) := by decide +kernel
theorem dL_law_624 : decode cL_law 624 = .ok (.iload 4, 2) := by decide +kernel
theorem dL_law_626 : decode cL_law 626 = .ok (.iconst 3, 1) := by decide +kernel
theorem dL_law_627 : decode cL_law 627 = .ok (.iadd, 1) := by decide +kernel
theorem dL_law_628 : decode cL_law 628 = .ok (.iaload, 1) := by decide +kernel
theorem dL_law_629 : decode cL_law 629 = .ok (.aload_n 0, 1) := by decide +kernel
theorem dL_law_630 : decode cL_law 630 = .ok (.iload 4, 2) := by decide +kernel
theorem dL_law_632 : decode cL_law 632 = .ok (.iconst 4, 1) := by decide +kernel
theorem dL_law_633 : decode cL_law 633 = .ok (.iadd, 1) := by decide +kernel
theorem dL_law_634 : decode cL_law 634 = .ok (.iaload, 1) := by decide +kernel
theorem dL_law_635 : decode cL_law 635 = .ok (.aload_n 0, 1) := by decide +kernel
theorem dL_law_636 : decode cL_law 636 = .ok (.iload 4, 2) := by decide +kernel
theorem dL_law_638 : decode cL_law 638 = .ok (.iconst 5, 1) := by decide +kernel
theorem dL_law_639 : decode cL_law 639 = .ok (.iadd, 1) := by decide +kernel
theorem dL_law_640 : decode cL_law 640 = .ok (.iaload, 1) := by decide +kernel
theorem dL_law_641 : decode cL_law 641 = .ok (.aload_n 0, 1) := by decide +kernel
theorem dL_law_642 : decode cL_law 642 = .ok (.iload 4, 2) := by decide +kernel
theorem dL_law_644 : decode cL_law 644 = .ok (.bipush 6, 2) := by decide +kernel
theorem dL_law_646 : decode cL_law 646 = .ok (.iadd, 1) := by decide +kernel
theorem dL_law_647 : decode cL_law 647 = .ok (.iaload, 1) := by decide +kernel
theorem dL_law_648 : decode cL_law 648 = .ok (.ifCond .eq 7, 3) := by decide +kernel
theorem dL_law_651 : decode cL_law 651 = .ok (.iconst 1, 1) := by decide +kernel
theorem dL_law_652 : decode cL_law 652 = .ok (.goto 4, 3) := by decide +kernel
theorem dL_law_655 : decode cL_law 655 = .ok (.iconst 0, 1) := by decide +kernel
theorem dL_law_656 : decode cL_law 656 = .ok (.invokevirtual 50, 3) := by decide +kernel
theorem dL_law_659 : decode cL_law 659 = .ok (.pop2, 1) := by decide +kernel
theorem dL_law_660 : decode cL_law 660 = .ok (.goto 1681, 3) := by decide +kernel
theorem dL_law_663 : decode cL_law 663 = .ok (.aload_n 1, 1) := by decide +kernel
theorem dL_law_664 : decode cL_law 664 = .ok (.aload_n 0, 1) := by decide +kernel
theorem dL_law_665 : decode cL_law 665 = .ok (.iload 4, 2) := by decide +kernel
theorem dL_law_667 : decode cL_law 667 = .ok (.iconst 1, 1) := by decide +kernel
theorem dL_law_668 : decode cL_law 668 = .ok (.iadd, 1) := by decide +kernel
theorem dL_law_669 : decode cL_law 669 = .ok (.iaload, 1) := by decide +kernel
theorem dL_law_670 : decode cL_law 670 = .ok (.aload_n 0, 1) := by decide +kernel
theorem dL_law_671 : decode cL_law 671 = .ok (.iload 4, 2) := by decide +kernel
theorem dL_law_673 : decode cL_law 673 = .ok (.iconst 2, 1) := by decide +kernel
theorem dL_law_674 : decode cL_law 674 = .ok (.iadd, 1) := by decide +kernel
theorem dL_law_675 : decode cL_law 675 = .ok (.iaload, 1) := by decide +kernel
theorem dL_law_676 : decode cL_law 676 = .ok (.aload_n 0, 1) := by decide +kernel
theorem dL_law_677 : decode cL_law 677 = .ok (.iload 4, 2) := by decide +kernel
theorem dL_law_679 : decode cL_law 679 = .ok (.iconst 3, 1) := by decide +kernel
theorem dL_law_680 : decode cL_law 680 = .ok (.iadd, 1) := by decide +kernel
theorem dL_law_681 : decode cL_law 681 = .ok (.iaload, 1) := by decide +kernel
theorem dL_law_682 : decode cL_law 682 = .ok (.invokevirtual 51, 3) := by decide +kernel
theorem dL_law_685 : decode cL_law 685 = .ok (.pop, 1) := by decide +kernel
theorem dL_law_686 : decode cL_law 686 = .ok (.aload_n 2, 1) := by decide +kernel
theorem dL_law_687 : decode cL_law 687 = .ok (.aload_n 0, 1) := by decide +kernel
theorem dL_law_688 : decode cL_law 688 = .ok (.iload 4, 2) := by decide +kernel
theorem dL_law_690 : decode cL_law 690 = .ok (.iconst 1, 1) := by decide +kernel
theorem dL_law_691 : decode cL_law 691 = .ok (.iadd, 1) := by decide +kernel
theorem dL_law_692 : decode cL_law 692 = .ok (.iaload, 1) := by decide +kernel
theorem dL_law_693 : decode cL_law 693 = .ok (.aload_n 0, 1) := by decide +kernel
theorem dL_law_694 : decode cL_law 694 = .ok (.iload 4, 2) := by decide +kernel
theorem dL_law_696 : decode cL_law 696 = .ok (.iconst 2, 1) := by decide +kernel
theorem dL_law_697 : decode cL_law 697 = .ok (.iadd, 1) := by decide +kernel
theorem dL_law_698 : decode cL_law 698 = .ok (.iaload, 1) := by decide +kernel
theorem dL_law_699 : decode cL_law 699 = .ok (.aload_n 0, 1) := by decide +kernel
theorem dL_law_700 : decode cL_law 700 = .ok (.iload 4, 2) := by decide +kernel
theorem dL_law_702 : decode cL_law 702 = .ok (.iconst 3, 1) := by decide +kernel
theorem dL_law_703 : decode cL_law 703 = .ok (.iadd, 1) := by decide +kernel
theorem dL_law_704 : decode cL_law 704 = .ok (.iaload, 1) := by decide +kernel
theorem dL_law_705 : decode cL_law 705 = .ok (.invokevirtual 55, 3) := by decide +kernel
theorem dL_law_708 : decode cL_law 708 = .ok (.pop, 1) := by decide +kernel
theorem dL_law_709 : decode cL_law 709 = .ok (.goto 1632, 3) := by decide +kernel
theorem dL_law_712 : decode cL_law 712 = .ok (.aload_n 1, 1) := by decide +kernel
theorem dL_law_713 : decode cL_law 713 = .ok (.aload_n 0, 1) := by decide +kernel
theorem dL_law_714 : decode cL_law 714 = .ok (.iload 4, 2) := by decide +kernel
theorem dL_law_716 : decode cL_law 716 = .ok (.iconst 1, 1) := by decide +kernel
theorem dL_law_717 : decode cL_law 717 = .ok (.iadd, 1) := by decide +kernel
theorem dL_law_718 : decode cL_law 718 = .ok (.iaload, 1) := by decide +kernel
theorem dL_law_719 : decode cL_law 719 = .ok (.aload_n 0, 1) := by decide +kernel
theorem dL_law_720 : decode cL_law 720 = .ok (.iload 4, 2) := by decide +kernel
theorem dL_law_722 : decode cL_law 722 = .ok (.iconst 2, 1) := by decide +kernel
theorem dL_law_723 : decode cL_law 723 = .ok (.iadd, 1) := by decide +kernel
theorem dL_law_724 : decode cL_law 724 = .ok (.iaload, 1) := by decide +kernel
theorem dL_law_725 : decode cL_law 725 = .ok (.aload_n 0, 1) := by decide +kernel
theorem dL_law_726 : decode cL_law 726 = .ok (.iload 4, 2) := by decide +kernel
theorem dL_law_728 : decode cL_law 728 = .ok (.iconst 3, 1) := by decide +kernel
theorem dL_law_729 : decode cL_law 729 = .ok (.iadd, 1) := by decide +kernel
theorem dL_law_730 : decode cL_law 730 = .ok (.iaload, 1) := by decide +kernel
theorem dL_law_731 : decode cL_law 731 = .ok (.invokevirtual 56, 3) := by decide +kernel
theorem dL_law_734 : decode cL_law 734 = .ok (.pop, 1) := by decide +kernel
theorem dL_law_735 : decode cL_law 735 = .ok (.aload_n 2, 1) := by decide +kernel
theorem dL_law_736 : decode cL_law 736 = .ok (.aload_n 0, 1) := by decide +kernel
theorem dL_law_737 : decode cL_law 737 = .ok (.iload 4, 2) := by decide +kernel
theorem dL_law_739 : decode cL_law 739 = .ok (.iconst 1, 1) := by decide +kernel
theorem dL_law_740 : decode cL_law 740 = .ok (.iadd, 1) := by decide +kernel
theorem dL_law_741 : decode cL_law 741 = .ok (.iaload, 1) := by decide +kernel
theorem dL_law_742 : decode cL_law 742 = .ok (.aload_n 0, 1) := by decide +kernel
theorem dL_law_743 : decode cL_law 743 = .ok (.iload 4, 2) := by decide +kernel
theorem dL_law_745 : decode cL_law 745 = .ok (.iconst 2, 1) := by decide +kernel
theorem dL_law_746 : decode cL_law 746 = .ok (.iadd, 1) := by decide +kernel
theorem dL_law_747 : decode cL_law 747 = .ok (.iaload, 1) := by decide +kernel
theorem dL_law_748 : decode cL_law 748 = .ok (.aload_n 0, 1) := by decide +kernel
theorem dL_law_749 : decode cL_law 749 = .ok (.iload 4, 2) := by decide +kernel
theorem dL_law_751 : decode cL_law 751 = .ok (.iconst 3, 1) := by decide +kernel
theorem dL_law_752 : decode cL_law 752 = .ok (.iadd, 1) := by decide +kernel
theorem dL_law_753 : decode cL_law 753 = .ok (.iaload, 1) := by decide +kernel
theorem dL_law_754 : decode cL_law 754 = .ok (.invokevirtual 59, 3) := by decide +kernel
theorem dL_law_757 : decode cL_law 757 = .ok (.pop, 1) := by decide +kernel
theorem dL_law_758 : decode cL_law 758 = .ok (.goto 1583, 3) := by decide +kernel
theorem dL_law_761 : decode cL_law 761 = .ok (.aload_n 1, 1) := by decide +kernel
theorem dL_law_762 : decode cL_law 762 = .ok (.aload_n 0, 1) := by decide +kernel
theorem dL_law_763 : decode cL_law 763 = .ok (.iload 4, 2) := by decide +kernel
theorem dL_law_765 : decode cL_law 765 = .ok (.iconst 1, 1) := by decide +kernel
theorem dL_law_766 : decode cL_law 766 = .ok (.iadd, 1) := by decide +kernel
theorem dL_law_767 : decode cL_law 767 = .ok (.iaload, 1) := by decide +kernel
theorem dL_law_768 : decode cL_law 768 = .ok (.aload_n 0, 1) := by decide +kernel
theorem dL_law_769 : decode cL_law 769 = .ok (.iload 4, 2) := by decide +kernel
theorem dL_law_771 : decode cL_law 771 = .ok (.iconst 2, 1) := by decide +kernel
theorem dL_law_772 : decode cL_law 772 = .ok (.iadd, 1) := by decide +kernel
theorem dL_law_773 : decode cL_law 773 = .ok (.iaload, 1) := by decide +kernel
theorem dL_law_774 : decode cL_law 774 = .ok (.aload_n 0, 1) := by decide +kernel
theorem dL_law_775 : decode cL_law 775 = .ok (.iload 4, 2) := by decide +kernel
theorem dL_law_777 : decode cL_law 777 = .ok (.iconst 3, 1) := by decide +kernel
theorem dL_law_778 : decode cL_law 778 = .ok (.iadd, 1) := by decide +kernel
theorem dL_law_779 : decode cL_law 779 = .ok (.iaload, 1) := by decide +kernel
theorem dL_law_780 : decode cL_law 780 = .ok (.aload_n 0, 1) := by decide +kernel
theorem dL_law_781 : decode cL_law 781 = .ok (.iload 4, 2) := by decide +kernel
theorem dL_law_783 : decode cL_law 783 = .ok (.iconst 4, 1) := by decide +kernel
theorem dL_law_784 : decode cL_law 784 = .ok (.iadd, 1) := by decide +kernel
theorem dL_law_785 : decode cL_law 785 = .ok (.iaload, 1) := by decide +kernel
theorem dL_law_786 : decode cL_law 786 = .ok (.aload_n 0, 1) := by decide +kernel
theorem dL_law_787 : decode cL_law 787 = .ok (.iload 4, 2) := by decide +kernel
theorem dL_law_789 : decode cL_law 789 = .ok (.iconst 5, 1) := by decide +kernel
theorem dL_law_790 : decode cL_law 790 = .ok (.iadd, 1) := by decide +kernel
theorem dL_law_791 : decode cL_law 791 = .ok (.iaload, 1) := by decide +kernel
theorem dL_law_792 : decode cL_law 792 = .ok (.invokevirtual 60, 3) := by decide +kernel
theorem dL_law_795 : decode cL_law 795 = .ok (.pop, 1) := by decide +kernel
theorem dL_law_796 : decode cL_law 796 = .ok (.aload_n 2, 1) := by decide +kernel
theorem dL_law_797 : decode cL_law 797 = .ok (.aload_n 0, 1) := by decide +kernel
theorem dL_law_798 : decode cL_law 798 = .ok (.iload 4, 2) := by decide +kernel
theorem dL_law_800 : decode cL_law 800 = .ok (.iconst 1, 1) := by decide +kernel
theorem dL_law_801 : decode cL_law 801 = .ok (.iadd, 1) := by decide +kernel
theorem dL_law_802 : decode cL_law 802 = .ok (.iaload, 1) := by decide +kernel
theorem dL_law_803 : decode cL_law 803 = .ok (.aload_n 0, 1) := by decide +kernel
theorem dL_law_804 : decode cL_law 804 = .ok (.iload 4, 2) := by decide +kernel
theorem dL_law_806 : decode cL_law 806 = .ok (.iconst 2, 1) := by decide +kernel
theorem dL_law_807 : decode cL_law 807 = .ok (.iadd, 1) := by decide +kernel
theorem dL_law_808 : decode cL_law 808 = .ok (.iaload, 1) := by decide +kernel
theorem dL_law_809 : decode cL_law 809 = .ok (.aload_n 0, 1) := by decide +kernel
theorem dL_law_810 : decode cL_law 810 = .ok (.iload 4, 2) := by decide +kernel
theorem dL_law_812 : decode cL_law 812 = .ok (.iconst 3, 1) := by decide +kernel
theorem dL_law_813 : decode cL_law 813 = .ok (.iadd, 1) := by decide +kernel
theorem dL_law_814 : decode cL_law 814 = .ok (.iaload, 1) := by decide +kernel
theorem dL_law_815 : decode cL_law 815 = .ok (.aload_n 0, 1) := by decide +kernel
theorem dL_law_816 : decode cL_law 816 = .ok (.iload 4, 2) := by decide +kernel
theorem dL_law_818 : decode cL_law 818 = .ok (.iconst 4, 1) := by decide +kernel
theorem dL_law_819 : decode cL_law 819 = .ok (.iadd, 1) := by decide +kernel
theorem dL_law_820 : decode cL_law 820 = .ok (.iaload, 1) := by decide +kernel
theorem dL_law_821 : decode cL_law 821 = .ok (.aload_n 0, 1) := by decide +kernel
theorem dL_law_822 : decode cL_law 822 = .ok (.iload 4, 2) := by decide +kernel
theorem dL_law_824 : decode cL_law 824 = .ok (.iconst 5, 1) := by decide +kernel
theorem dL_law_825 : decode cL_law 825 = .ok (.iadd, 1) := by decide +kernel
theorem dL_law_826 : decode cL_law 826 = .ok (.iaload, 1) := by decide +kernel
theorem dL_law_827 : decode cL_law 827 = .ok (.invokevirtual 63, 3) := by decide +kernel
theorem dL_law_830 : decode cL_law 830 = .ok (.pop, 1) := by decide +kernel
theorem dL_law_831 : decode cL_law 831 = .ok (.goto 1510, 3) := by decide +kernel
theorem dL_law_834 : decode cL_law 834 = .ok (.aload_n 1, 1) := by decide +kernel
theorem dL_law_835 : decode cL_law 835 = .ok (.aload_n 0, 1) := by decide +kernel
theorem dL_law_836 : decode cL_law 836 = .ok (.iload 4, 2) := by decide +kernel
theorem dL_law_838 : decode cL_law 838 = .ok (.iconst 1, 1) := by decide +kernel
theorem dL_law_839 : decode cL_law 839 = .ok (.iadd, 1) := by decide +kernel
theorem dL_law_840 : decode cL_law 840 = .ok (.iaload, 1) := by decide +kernel
theorem dL_law_841 : decode cL_law 841 = .ok (.aload_n 0, 1) := by decide +kernel
theorem dL_law_842 : decode cL_law 842 = .ok (.iload 4, 2) := by decide +kernel
theorem dL_law_844 : decode cL_law 844 = .ok (.iconst 2, 1) := by decide +kernel
theorem dL_law_845 : decode cL_law 845 = .ok (.iadd, 1) := by decide +kernel
theorem dL_law_846 : decode cL_law 846 = .ok (.iaload, 1) := by decide +kernel
theorem dL_law_847 : decode cL_law 847 = .ok (.aload_n 0, 1) := by decide +kernel
theorem dL_law_848 : decode cL_law 848 = .ok (.iload 4, 2) := by decide +kernel
theorem dL_law_850 : decode cL_law 850 = .ok (.iconst 3, 1) := by decide +kernel
theorem dL_law_851 : decode cL_law 851 = .ok (.iadd, 1) := by decide +kernel
theorem dL_law_852 : decode cL_law 852 = .ok (.iaload, 1) := by decide +kernel
theorem dL_law_853 : decode cL_law 853 = .ok (.aload_n 0, 1) := by decide +kernel
theorem dL_law_854 : decode cL_law 854 = .ok (.iload 4, 2) := by decide +kernel
theorem dL_law_856 : decode cL_law 856 = .ok (.iconst 4, 1) := by decide +kernel
theorem dL_law_857 : decode cL_law 857 = .ok (.iadd, 1) := by decide +kernel
theorem dL_law_858 : decode cL_law 858 = .ok (.iaload, 1) := by decide +kernel
theorem dL_law_859 : decode cL_law 859 = .ok (.invokevirtual 64, 3) := by decide +kernel
theorem dL_law_862 : decode cL_law 862 = .ok (.pop, 1) := by decide +kernel
theorem dL_law_863 : decode cL_law 863 = .ok (.aload_n 2, 1) := by decide +kernel
theorem dL_law_864 : decode cL_law 864 = .ok (.aload_n 0, 1) := by decide +kernel
theorem dL_law_865 : decode cL_law 865 = .ok (.iload 4, 2) := by decide +kernel
theorem dL_law_867 : decode cL_law 867 = .ok (.iconst 1, 1) := by decide +kernel
theorem dL_law_868 : decode cL_law 868 = .ok (.iadd, 1) := by decide +kernel
theorem dL_law_869 : decode cL_law 869 = .ok (.iaload, 1) := by decide +kernel
theorem dL_law_870 : decode cL_law 870 = .ok (.aload_n 0, 1) := by decide +kernel
theorem dL_law_871 : decode cL_law 871 = .ok (.iload 4, 2) := by decide +kernel
theorem dL_law_873 : decode cL_law 873 = .ok (.iconst 2, 1) := by decide +kernel
theorem dL_law_874 : decode cL_law 874 = .ok (.iadd, 1) := by decide +kernel
theorem dL_law_875 : decode cL_law 875 = .ok (.iaload, 1) := by decide +kernel
theorem dL_law_876 : decode cL_law 876 = .ok (.aload_n 0, 1) := by decide +kernel
theorem dL_law_877 : decode cL_law 877 = .ok (.iload 4, 2) := by decide +kernel
theorem dL_law_879 : decode cL_law 879 = .ok (.iconst 3, 1) := by decide +kernel
theorem dL_law_880 : decode cL_law 880 = .ok (.iadd, 1) := by decide +kernel
theorem dL_law_881 : decode cL_law 881 = .ok (.iaload, 1) := by decide +kernel
theorem dL_law_882 : decode cL_law 882 = .ok (.aload_n 0, 1) := by decide +kernel
theorem dL_law_883 : decode cL_law 883 = .ok (.iload 4, 2) := by decide +kernel
theorem dL_law_885 : decode cL_law 885 = .ok (.iconst 4, 1) := by decide +kernel
theorem dL_law_886 : decode cL_law 886 = .ok (.iadd, 1) := by decide +kernel
theorem dL_law_887 : decode cL_law 887 = .ok (.iaload, 1) := by decide +kernel
theorem dL_law_888 : decode cL_law 888 = .ok (.invokevirtual 68, 3) := by decide +kernel
theorem dL_law_891 : decode cL_law 891 = .ok (.pop, 1) := by decide +kernel
theorem dL_law_892 : decode cL_law 892 = .ok (.goto 1449, 3) := by decide +kernel
theorem dL_law_895 : decode cL_law 895 = .ok (.aload_n 1, 1) := by decide +kernel
theorem dL_law_896 : decode cL_law 896 = .ok (.aload_n 0, 1) := by decide +kernel
theorem dL_law_897 : decode cL_law 897 = .ok (.iload 4, 2) := by decide +kernel
theorem dL_law_899 : decode cL_law 899 = .ok (.iconst 1, 1) := by decide +kernel
theorem dL_law_900 : decode cL_law 900 = .ok (.iadd, 1) := by decide +kernel
theorem dL_law_901 : decode cL_law 901 = .ok (.iaload, 1) := by decide +kernel
theorem dL_law_902 : decode cL_law 902 = .ok (.aload_n 0, 1) := by decide +kernel
theorem dL_law_903 : decode cL_law 903 = .ok (.iload 4, 2) := by decide +kernel
theorem dL_law_905 : decode cL_law 905 = .ok (.iconst 2, 1) := by decide +kernel
theorem dL_law_906 : decode cL_law 906 = .ok (.iadd, 1) := by decide +kernel
theorem dL_law_907 : decode cL_law 907 = .ok (.iaload, 1) := by decide +kernel
theorem dL_law_908 : decode cL_law 908 = .ok (.aload_n 0, 1) := by decide +kernel
theorem dL_law_909 : decode cL_law 909 = .ok (.iload 4, 2) := by decide +kernel
theorem dL_law_911 : decode cL_law 911 = .ok (.iconst 3, 1) := by decide +kernel
theorem dL_law_912 : decode cL_law 912 = .ok (.iadd, 1) := by decide +kernel
theorem dL_law_913 : decode cL_law 913 = .ok (.iaload, 1) := by decide +kernel
theorem dL_law_914 : decode cL_law 914 = .ok (.aload_n 0, 1) := by decide +kernel
theorem dL_law_915 : decode cL_law 915 = .ok (.iload 4, 2) := by decide +kernel
theorem dL_law_917 : decode cL_law 917 = .ok (.iconst 4, 1) := by decide +kernel
theorem dL_law_918 : decode cL_law 918 = .ok (.iadd, 1) := by decide +kernel
theorem dL_law_919 : decode cL_law 919 = .ok (.iaload, 1) := by decide +kernel
theorem dL_law_920 : decode cL_law 920 = .ok (.aload_n 0, 1) := by decide +kernel
theorem dL_law_921 : decode cL_law 921 = .ok (.iload 4, 2) := by decide +kernel
theorem dL_law_923 : decode cL_law 923 = .ok (.iconst 5, 1) := by decide +kernel
theorem dL_law_924 : decode cL_law 924 = .ok (.iadd, 1) := by decide +kernel
theorem dL_law_925 : decode cL_law 925 = .ok (.iaload, 1) := by decide +kernel
theorem dL_law_926 : decode cL_law 926 = .ok (.ifCond .eq 7, 3) := by decide +kernel
theorem dL_law_929 : decode cL_law 929 = .ok (.iconst 1, 1) := by decide +kernel
theorem dL_law_930 : decode cL_law 930 = .ok (.goto 4, 3) := by decide +kernel
theorem dL_law_933 : decode cL_law 933 = .ok (.iconst 0, 1) := by decide +kernel
theorem dL_law_934 : decode cL_law 934 = .ok (.invokevirtual 69, 3) := by decide +kernel
theorem dL_law_937 : decode cL_law 937 = .ok (.pop2, 1) := by decide +kernel
theorem dL_law_938 : decode cL_law 938 = .ok (.aload_n 2, 1) := by decide +kernel
theorem dL_law_939 : decode cL_law 939 = .ok (.aload_n 0, 1) := by decide +kernel
theorem dL_law_940 : decode cL_law 940 = .ok (.iload 4, 2) := by decide +kernel
theorem dL_law_942 : decode cL_law 942 = .ok (.iconst 1, 1) := by decide +kernel
theorem dL_law_943 : decode cL_law 943 = .ok (.iadd, 1) := by decide +kernel
theorem dL_law_944 : decode cL_law 944 = .ok (.iaload, 1) := by decide +kernel
theorem dL_law_945 : decode cL_law 945 = .ok (.aload_n 0, 1) := by decide +kernel
theorem dL_law_946 : decode cL_law 946 = .ok (.iload 4, 2) := by decide +kernel
theorem dL_law_948 : decode cL_law 948 = .ok (.iconst 2, 1) := by decide +kernel
theorem dL_law_949 : decode cL_law 949 = .ok (.iadd, 1) := by decide +kernel
theorem dL_law_950 : decode cL_law 950 = .ok (.iaload, 1) := by decide +kernel
theorem dL_law_951 : decode cL_law 951 = .ok (.aload_n 0, 1) := by decide +kernel
theorem dL_law_952 : decode cL_law 952 = .ok (.iload 4, 2) := by decide +kernel
theorem dL_law_954 : decode cL_law 954 = .ok (.iconst 3, 1) := by decide +kernel
theorem dL_law_955 : decode cL_law 955 = .ok (.iadd, 1) := by decide +kernel
theorem dL_law_956 : decode cL_law 956 = .ok (.iaload, 1) := by decide +kernel
theorem dL_law_957 : decode cL_law 957 = .ok (.aload_n 0, 1) := by decide +kernel
theorem dL_law_958 : decode cL_law 958 = .ok (.iload 4, 2) := by decide +kernel
theorem dL_law_960 : decode cL_law 960 = .ok (.iconst 4, 1) := by decide +kernel
theorem dL_law_961 : decode cL_law 961 = .ok (.iadd, 1) := by decide +kernel
theorem dL_law_962 : decode cL_law 962 = .ok (.iaload, 1) := by decide +kernel
theorem dL_law_963 : decode cL_law 963 = .ok (.aload_n 0, 1) := by decide +kernel
theorem dL_law_964 : decode cL_law 964 = .ok (.iload 4, 2) := by decide +kernel
theorem dL_law_966 : decode cL_law 966 = .ok (.iconst 5, 1) := by decide +kernel
theorem dL_law_967 : decode cL_law 967 = .ok (.iadd, 1) := by decide +kernel
theorem dL_law_968 : decode cL_law 968 = .ok (.iaload, 1) := by decide +kernel
theorem dL_law_969 : decode cL_law 969 = .ok (.ifCond .eq 7, 3) := by decide +kernel
theorem dL_law_972 : decode cL_law 972 = .ok (.iconst 1, 1) := by decide +kernel
theorem dL_law_973 : decode cL_law 973 = .ok (.goto 4, 3) := by decide +kernel
theorem dL_law_976 : decode cL_law 976 = .ok (.iconst 0, 1) := by decide +kernel
theorem dL_law_977 : decode cL_law 977 = .ok (.invokevirtual 73, 3) := by decide +kernel
theorem dL_law_980 : decode cL_law 980 = .ok (.pop2, 1) := by decide +kernel
theorem dL_law_981 : decode cL_law 981 = .ok (.goto 1360, 3) := by decide +kernel
theorem dL_law_984 : decode cL_law 984 = .ok (.aload_n 1, 1) := by decide +kernel
theorem dL_law_985 : decode cL_law 985 = .ok (.aload_n 0, 1) := by decide +kernel
theorem dL_law_986 : decode cL_law 986 = .ok (.iload 4, 2) := by decide +kernel
theorem dL_law_988 : decode cL_law 988 = .ok (.iconst 1, 1) := by decide +kernel
theorem dL_law_989 : decode cL_law 989 = .ok (.iadd, 1) := by decide +kernel
theorem dL_law_990 : decode cL_law 990 = .ok (.iaload, 1) := by decide +kernel
theorem dL_law_991 : decode cL_law 991 = .ok (.aload_n 0, 1) := by decide +kernel
theorem dL_law_992 : decode cL_law 992 = .ok (.iload 4, 2) := by decide +kernel
theorem dL_law_994 : decode cL_law 994 = .ok (.iconst 2, 1) := by decide +kernel
theorem dL_law_995 : decode cL_law 995 = .ok (.iadd, 1) := by decide +kernel
theorem dL_law_996 : decode cL_law 996 = .ok (.iaload, 1) := by decide +kernel
theorem dL_law_997 : decode cL_law 997 = .ok (.aload_n 0, 1) := by decide +kernel
theorem dL_law_998 : decode cL_law 998 = .ok (.iload 4, 2) := by decide +kernel
theorem dL_law_1000 : decode cL_law 1000 = .ok (.iconst 3, 1) := by decide +kernel
theorem dL_law_1001 : decode cL_law 1001 = .ok (.iadd, 1) := by decide +kernel
theorem dL_law_1002 : decode cL_law 1002 = .ok (.iaload, 1) := by decide +kernel
theorem dL_law_1003 : decode cL_law 1003 = .ok (.aload_n 0, 1) := by decide +kernel
theorem dL_law_1004 : decode cL_law 1004 = .ok (.iload 4, 2) := by decide +kernel
theorem dL_law_1006 : decode cL_law 1006 = .ok (.iconst 4, 1) := by decide +kernel
theorem dL_law_1007 : decode cL_law 1007 = .ok (.iadd, 1) := by decide +kernel
theorem dL_law_1008 : decode cL_law 1008 = .ok (.iaload, 1) := by decide +kernel
theorem dL_law_1009 : decode cL_law 1009 = .ok (.invokevirtual 74, 3) := by decide +kernel
theorem dL_law_1012 : decode cL_law 1012 = .ok (.pop, 1) := by decide +kernel
theorem dL_law_1013 : decode cL_law 1013 = .ok (.aload_n 2, 1) := by decide +kernel
theorem dL_law_1014 : decode cL_law 1014 = .ok (.aload_n 0, 1) := by decide +kernel
theorem dL_law_1015 : decode cL_law 1015 = .ok (.iload 4, 2) := by decide +kernel
theorem dL_law_1017 : decode cL_law 1017 = .ok (.iconst 1, 1) := by decide +kernel
theorem dL_law_1018 : decode cL_law 1018 = .ok (.iadd, 1) := by decide +kernel
theorem dL_law_1019 : decode cL_law 1019 = .ok (.iaload, 1) := by decide +kernel
theorem dL_law_1020 : decode cL_law 1020 = .ok (.aload_n 0, 1) := by decide +kernel
theorem dL_law_1021 : decode cL_law 1021 = .ok (.iload 4, 2) := by decide +kernel
theorem dL_law_1023 : decode cL_law 1023 = .ok (.iconst 2, 1) := by decide +kernel
theorem dL_law_1024 : decode cL_law 1024 = .ok (.iadd, 1) := by decide +kernel
theorem dL_law_1025 : decode cL_law 1025 = .ok (.iaload, 1) := by decide +kernel
theorem dL_law_1026 : decode cL_law 1026 = .ok (.aload_n 0, 1) := by decide +kernel
theorem dL_law_1027 : decode cL_law 1027 = .ok (.iload 4, 2) := by decide +kernel
theorem dL_law_1029 : decode cL_law 1029 = .ok (.iconst 3, 1) := by decide +kernel
theorem dL_law_1030 : decode cL_law 1030 = .ok (.iadd, 1) := by decide +kernel
theorem dL_law_1031 : decode cL_law 1031 = .ok (.iaload, 1) := by decide +kernel
theorem dL_law_1032 : decode cL_law 1032 = .ok (.aload_n 0, 1) := by decide +kernel
theorem dL_law_1033 : decode cL_law 1033 = .ok (.iload 4, 2) := by decide +kernel
theorem dL_law_1035 : decode cL_law 1035 = .ok (.iconst 4, 1) := by decide +kernel
theorem dL_law_1036 : decode cL_law 1036 = .ok (.iadd, 1) := by decide +kernel
theorem dL_law_1037 : decode cL_law 1037 = .ok (.iaload, 1) := by decide +kernel
theorem dL_law_1038 : decode cL_law 1038 = .ok (.invokevirtual 77, 3) := by decide +kernel
theorem dL_law_1041 : decode cL_law 1041 = .ok (.pop, 1) := by decide +kernel
theorem dL_law_1042 : decode cL_law 1042 = .ok (.goto 1299, 3) := by decide +kernel
theorem dL_law_1045 : decode cL_law 1045 = .ok (.aload_n 1, 1) := by decide +kernel
theorem dL_law_1046 : decode cL_law 1046 = .ok (.aload_n 0, 1) := by decide +kernel
theorem dL_law_1047 : decode cL_law 1047 = .ok (.iload 4, 2) := by decide +kernel
theorem dL_law_1049 : decode cL_law 1049 = .ok (.iconst 1, 1) := by decide +kernel
theorem dL_law_1050 : decode cL_law 1050 = .ok (.iadd, 1) := by decide +kernel
theorem dL_law_1051 : decode cL_law 1051 = .ok (.iaload, 1) := by decide +kernel
theorem dL_law_1052 : decode cL_law 1052 = .ok (.aload_n 0, 1) := by decide +kernel
theorem dL_law_1053 : decode cL_law 1053 = .ok (.iload 4, 2) := by decide +kernel
theorem dL_law_1055 : decode cL_law 1055 = .ok (.iconst 2, 1) := by decide +kernel
theorem dL_law_1056 : decode cL_law 1056 = .ok (.iadd, 1) := by decide +kernel
theorem dL_law_1057 : decode cL_law 1057 = .ok (.iaload, 1) := by decide +kernel
theorem dL_law_1058 : decode cL_law 1058 = .ok (.aload_n 0, 1) := by decide +kernel
theorem dL_law_1059 : decode cL_law 1059 = .ok (.iload 4, 2) := by decide +kernel
theorem dL_law_1061 : decode cL_law 1061 = .ok (.iconst 3, 1) := by decide +kernel
theorem dL_law_1062 : decode cL_law 1062 = .ok (.iadd, 1) := by decide +kernel
theorem dL_law_1063 : decode cL_law 1063 = .ok (.iaload, 1) := by decide +kernel
theorem dL_law_1064 : decode cL_law 1064 = .ok (.aload_n 0, 1) := by decide +kernel
theorem dL_law_1065 : decode cL_law 1065 = .ok (.iload 4, 2) := by decide +kernel
theorem dL_law_1067 : decode cL_law 1067 = .ok (.iconst 4, 1) := by decide +kernel
theorem dL_law_1068 : decode cL_law 1068 = .ok (.iadd, 1) := by decide +kernel
theorem dL_law_1069 : decode cL_law 1069 = .ok (.iaload, 1) := by decide +kernel
theorem dL_law_1070 : decode cL_law 1070 = .ok (.invokevirtual 78, 3) := by decide +kernel
theorem dL_law_1073 : decode cL_law 1073 = .ok (.pop, 1) := by decide +kernel
theorem dL_law_1074 : decode cL_law 1074 = .ok (.aload_n 2, 1) := by decide +kernel
theorem dL_law_1075 : decode cL_law 1075 = .ok (.aload_n 0, 1) := by decide +kernel
theorem dL_law_1076 : decode cL_law 1076 = .ok (.iload 4, 2) := by decide +kernel
theorem dL_law_1078 : decode cL_law 1078 = .ok (.iconst 1, 1) := by decide +kernel
theorem dL_law_1079 : decode cL_law 1079 = .ok (.iadd, 1) := by decide +kernel
theorem dL_law_1080 : decode cL_law 1080 = .ok (.iaload, 1) := by decide +kernel
theorem dL_law_1081 : decode cL_law 1081 = .ok (.aload_n 0, 1) := by decide +kernel
theorem dL_law_1082 : decode cL_law 1082 = .ok (.iload 4, 2) := by decide +kernel
theorem dL_law_1084 : decode cL_law 1084 = .ok (.iconst 2, 1) := by decide +kernel
theorem dL_law_1085 : decode cL_law 1085 = .ok (.iadd, 1) := by decide +kernel
theorem dL_law_1086 : decode cL_law 1086 = .ok (.iaload, 1) := by decide +kernel
theorem dL_law_1087 : decode cL_law 1087 = .ok (.aload_n 0, 1) := by decide +kernel
theorem dL_law_1088 : decode cL_law 1088 = .ok (.iload 4, 2) := by decide +kernel
theorem dL_law_1090 : decode cL_law 1090 = .ok (.iconst 3, 1) := by decide +kernel
theorem dL_law_1091 : decode cL_law 1091 = .ok (.iadd, 1) := by decide +kernel
theorem dL_law_1092 : decode cL_law 1092 = .ok (.iaload, 1) := by decide +kernel
theorem dL_law_1093 : decode cL_law 1093 = .ok (.aload_n 0, 1) := by decide +kernel
theorem dL_law_1094 : decode cL_law 1094 = .ok (.iload 4, 2) := by decide +kernel
theorem dL_law_1096 : decode cL_law 1096 = .ok (.iconst 4, 1) := by decide +kernel
theorem dL_law_1097 : decode cL_law 1097 = .ok (.iadd, 1) := by decide +kernel
theorem dL_law_1098 : decode cL_law 1098 = .ok (.iaload, 1) := by decide +kernel
theorem dL_law_1099 : decode cL_law 1099 = .ok (.invokevirtual 81, 3) := by decide +kernel
theorem dL_law_1102 : decode cL_law 1102 = .ok (.pop, 1) := by decide +kernel
theorem dL_law_1103 : decode cL_law 1103 = .ok (.goto 1238, 3) := by decide +kernel
theorem dL_law_1106 : decode cL_law 1106 = .ok (.aload_n 1, 1) := by decide +kernel
theorem dL_law_1107 : decode cL_law 1107 = .ok (.aload_n 0, 1) := by decide +kernel
theorem dL_law_1108 : decode cL_law 1108 = .ok (.iload 4, 2) := by decide +kernel
theorem dL_law_1110 : decode cL_law 1110 = .ok (.iconst 1, 1) := by decide +kernel
theorem dL_law_1111 : decode cL_law 1111 = .ok (.iadd, 1) := by decide +kernel
theorem dL_law_1112 : decode cL_law 1112 = .ok (.iaload, 1) := by decide +kernel
theorem dL_law_1113 : decode cL_law 1113 = .ok (.aload_n 0, 1) := by decide +kernel
theorem dL_law_1114 : decode cL_law 1114 = .ok (.iload 4, 2) := by decide +kernel
theorem dL_law_1116 : decode cL_law 1116 = .ok (.iconst 2, 1) := by decide +kernel
theorem dL_law_1117 : decode cL_law 1117 = .ok (.iadd, 1) := by decide +kernel
theorem dL_law_1118 : decode cL_law 1118 = .ok (.iaload, 1) := by decide +kernel
theorem dL_law_1119 : decode cL_law 1119 = .ok (.aload_n 0, 1) := by decide +kernel
theorem dL_law_1120 : decode cL_law 1120 = .ok (.iload 4, 2) := by decide +kernel
theorem dL_law_1122 : decode cL_law 1122 = .ok (.iconst 3, 1) := by decide +kernel
theorem dL_law_1123 : decode cL_law 1123 = .ok (.iadd, 1) := by decide +kernel
theorem dL_law_1124 : decode cL_law 1124 = .ok (.iaload, 1) := by decide +kernel
theorem dL_law_1125 : decode cL_law 1125 = .ok (.aload_n 0, 1) := by decide +kernel
theorem dL_law_1126 : decode cL_law 1126 = .ok (.iload 4, 2) := by decide +kernel
theorem dL_law_1128 : decode cL_law 1128 = .ok (.iconst 4, 1) := by decide +kernel
theorem dL_law_1129 : decode cL_law 1129 = .ok (.iadd, 1) := by decide +kernel
theorem dL_law_1130 : decode cL_law 1130 = .ok (.iaload, 1) := by decide +kernel
theorem dL_law_1131 : decode cL_law 1131 = .ok (.ifCond .eq 7, 3) := by decide +kernel
theorem dL_law_1134 : decode cL_law 1134 = .ok (.iconst 1, 1) := by decide +kernel
theorem dL_law_1135 : decode cL_law 1135 = .ok (.goto 4, 3) := by decide +kernel
theorem dL_law_1138 : decode cL_law 1138 = .ok (.iconst 0, 1) := by decide +kernel
theorem dL_law_1139 : decode cL_law 1139 = .ok (.invokevirtual 82, 3) := by decide +kernel
theorem dL_law_1142 : decode cL_law 1142 = .ok (.pop2, 1) := by decide +kernel
theorem dL_law_1143 : decode cL_law 1143 = .ok (.aload_n 2, 1) := by decide +kernel
theorem dL_law_1144 : decode cL_law 1144 = .ok (.aload_n 0, 1) := by decide +kernel
theorem dL_law_1145 : decode cL_law 1145 = .ok (.iload 4, 2) := by decide +kernel
theorem dL_law_1147 : decode cL_law 1147 = .ok (.iconst 1, 1) := by decide +kernel
theorem dL_law_1148 : decode cL_law 1148 = .ok (.iadd, 1) := by decide +kernel
theorem dL_law_1149 : decode cL_law 1149 = .ok (.iaload, 1) := by decide +kernel
theorem dL_law_1150 : decode cL_law 1150 = .ok (.aload_n 0, 1) := by decide +kernel
theorem dL_law_1151 : decode cL_law 1151 = .ok (.iload 4, 2) := by decide +kernel
theorem dL_law_1153 : decode cL_law 1153 = .ok (.iconst 2, 1) := by decide +kernel
theorem dL_law_1154 : decode cL_law 1154 = .ok (.iadd, 1) := by decide +kernel
theorem dL_law_1155 : decode cL_law 1155 = .ok (.iaload, 1) := by decide +kernel
theorem dL_law_1156 : decode cL_law 1156 = .ok (.aload_n 0, 1) := by decide +kernel
theorem dL_law_1157 : decode cL_law 1157 = .ok (.iload 4, 2) := by decide +kernel
theorem dL_law_1159 : decode cL_law 1159 = .ok (.iconst 3, 1) := by decide +kernel
theorem dL_law_1160 : decode cL_law 1160 = .ok (.iadd, 1) := by decide +kernel
theorem dL_law_1161 : decode cL_law 1161 = .ok (.iaload, 1) := by decide +kernel
theorem dL_law_1162 : decode cL_law 1162 = .ok (.aload_n 0, 1) := by decide +kernel
theorem dL_law_1163 : decode cL_law 1163 = .ok (.iload 4, 2) := by decide +kernel
theorem dL_law_1165 : decode cL_law 1165 = .ok (.iconst 4, 1) := by decide +kernel
theorem dL_law_1166 : decode cL_law 1166 = .ok (.iadd, 1) := by decide +kernel
theorem dL_law_1167 : decode cL_law 1167 = .ok (.iaload, 1) := by decide +kernel
theorem dL_law_1168 : decode cL_law 1168 = .ok (.ifCond .eq 7, 3) := by decide +kernel
theorem dL_law_1171 : decode cL_law 1171 = .ok (.iconst 1, 1) := by decide +kernel
theorem dL_law_1172 : decode cL_law 1172 = .ok (.goto 4, 3) := by decide +kernel
theorem dL_law_1175 : decode cL_law 1175 = .ok (.iconst 0, 1) := by decide +kernel
theorem dL_law_1176 : decode cL_law 1176 = .ok (.invokevirtual 86, 3) := by decide +kernel
theorem dL_law_1179 : decode cL_law 1179 = .ok (.pop2, 1) := by decide +kernel
theorem dL_law_1180 : decode cL_law 1180 = .ok (.goto 1161, 3) := by decide +kernel
theorem dL_law_1183 : decode cL_law 1183 = .ok (.aload_n 1, 1) := by decide +kernel
theorem dL_law_1184 : decode cL_law 1184 = .ok (.aload_n 0, 1) := by decide +kernel
theorem dL_law_1185 : decode cL_law 1185 = .ok (.iload 4, 2) := by decide +kernel
theorem dL_law_1187 : decode cL_law 1187 = .ok (.iconst 1, 1) := by decide +kernel
theorem dL_law_1188 : decode cL_law 1188 = .ok (.iadd, 1) := by decide +kernel
theorem dL_law_1189 : decode cL_law 1189 = .ok (.iaload, 1) := by decide +kernel
theorem dL_law_1190 : decode cL_law 1190 = .ok (.aload_n 0, 1) := by decide +kernel
theorem dL_law_1191 : decode cL_law 1191 = .ok (.iload 4, 2) := by decide +kernel
theorem dL_law_1193 : decode cL_law 1193 = .ok (.iconst 2, 1) := by decide +kernel
theorem dL_law_1194 : decode cL_law 1194 = .ok (.iadd, 1) := by decide +kernel
theorem dL_law_1195 : decode cL_law 1195 = .ok (.iaload, 1) := by decide +kernel
theorem dL_law_1196 : decode cL_law 1196 = .ok (.aload_n 0, 1) := by decide +kernel
theorem dL_law_1197 : decode cL_law 1197 = .ok (.iload 4, 2) := by decide +kernel
theorem dL_law_1199 : decode cL_law 1199 = .ok (.iconst 3, 1) := by decide +kernel
theorem dL_law_1200 : decode cL_law 1200 = .ok (.iadd, 1) := by decide +kernel
theorem dL_law_1201 : decode cL_law 1201 = .ok (.iaload, 1) := by decide +kernel
theorem dL_law_1202 : decode cL_law 1202 = .ok (.invokevirtual 87, 3) := by decide +kernel
theorem dL_law_1205 : decode cL_law 1205 = .ok (.pop, 1) := by decide +kernel
theorem dL_law_1206 : decode cL_law 1206 = .ok (.aload_n 2, 1) := by decide +kernel
theorem dL_law_1207 : decode cL_law 1207 = .ok (.aload_n 0, 1) := by decide +kernel
theorem dL_law_1208 : decode cL_law 1208 = .ok (.iload 4, 2) := by decide +kernel
theorem dL_law_1210 : decode cL_law 1210 = .ok (.iconst 1, 1) := by decide +kernel
theorem dL_law_1211 : decode cL_law 1211 = .ok (.iadd, 1) := by decide +kernel
theorem dL_law_1212 : decode cL_law 1212 = .ok (.iaload, 1) := by decide +kernel
theorem dL_law_1213 : decode cL_law 1213 = .ok (.aload_n 0, 1) := by decide +kernel
theorem dL_law_1214 : decode cL_law 1214 = .ok (.iload 4, 2) := by decide +kernel
theorem dL_law_1216 : decode cL_law 1216 = .ok (.iconst 2, 1) := by decide +kernel
theorem dL_law_1217 : decode cL_law 1217 = .ok (.iadd, 1) := by decide +kernel
theorem dL_law_1218 : decode cL_law 1218 = .ok (.iaload, 1) := by decide +kernel
theorem dL_law_1219 : decode cL_law 1219 = .ok (.aload_n 0, 1) := by decide +kernel
theorem dL_law_1220 : decode cL_law 1220 = .ok (.iload 4, 2) := by decide +kernel
theorem dL_law_1222 : decode cL_law 1222 = .ok (.iconst 3, 1) := by decide +kernel
theorem dL_law_1223 : decode cL_law 1223 = .ok (.iadd, 1) := by decide +kernel
theorem dL_law_1224 : decode cL_law 1224 = .ok (.iaload, 1) := by decide +kernel
theorem dL_law_1225 : decode cL_law 1225 = .ok (.invokevirtual 90, 3) := by decide +kernel
theorem dL_law_1228 : decode cL_law 1228 = .ok (.pop, 1) := by decide +kernel
theorem dL_law_1229 : decode cL_law 1229 = .ok (.goto 1112, 3) := by decide +kernel
theorem dL_law_1232 : decode cL_law 1232 = .ok (.aload_n 1, 1) := by decide +kernel
theorem dL_law_1233 : decode cL_law 1233 = .ok (.aload_n 0, 1) := by decide +kernel
theorem dL_law_1234 : decode cL_law 1234 = .ok (.iload 4, 2) := by decide +kernel
theorem dL_law_1236 : decode cL_law 1236 = .ok (.iconst 1, 1) := by decide +kernel
theorem dL_law_1237 : decode cL_law 1237 = .ok (.iadd, 1) := by decide +kernel
theorem dL_law_1238 : decode cL_law 1238 = .ok (.iaload, 1) := by decide +kernel
theorem dL_law_1239 : decode cL_law 1239 = .ok (.aload_n 0, 1) := by decide +kernel
theorem dL_law_1240 : decode cL_law 1240 = .ok (.iload 4, 2) := by decide +kernel
theorem dL_law_1242 : decode cL_law 1242 = .ok (.iconst 2, 1) := by decide +kernel
theorem dL_law_1243 : decode cL_law 1243 = .ok (.iadd, 1) := by decide +kernel
theorem dL_law_1244 : decode cL_law 1244 = .ok (.iaload, 1) := by decide +kernel
theorem dL_law_1245 : decode cL_law 1245 = .ok (.aload_n 0, 1) := by decide +kernel
theorem dL_law_1246 : decode cL_law 1246 = .ok (.iload 4, 2) := by decide +kernel
theorem dL_law_1248 : decode cL_law 1248 = .ok (.iconst 3, 1) := by decide +kernel
theorem dL_law_1249 : decode cL_law 1249 = .ok (.iadd, 1) := by decide +kernel
theorem dL_law_1250 : decode cL_law 1250 = .ok (.iaload, 1) := by decide +kernel
theorem dL_law_1251 : decode cL_law 1251 = .ok (.aload_n 0, 1) := by decide +kernel
theorem dL_law_1252 : decode cL_law 1252 = .ok (.iload 4, 2) := by decide +kernel
theorem dL_law_1254 : decode cL_law 1254 = .ok (.iconst 4, 1) := by decide +kernel
theorem dL_law_1255 : decode cL_law 1255 = .ok (.iadd, 1) := by decide +kernel
theorem dL_law_1256 : decode cL_law 1256 = .ok (.iaload, 1) := by decide +kernel
theorem dL_law_1257 : decode cL_law 1257 = .ok (.aload_n 0, 1) := by decide +kernel
theorem dL_law_1258 : decode cL_law 1258 = .ok (.iload 4, 2) := by decide +kernel
theorem dL_law_1260 : decode cL_law 1260 = .ok (.iconst 5, 1) := by decide +kernel
theorem dL_law_1261 : decode cL_law 1261 = .ok (.iadd, 1) := by decide +kernel
theorem dL_law_1262 : decode cL_law 1262 = .ok (.iaload, 1) := by decide +kernel
theorem dL_law_1263 : decode cL_law 1263 = .ok (.aload_n 0, 1) := by decide +kernel
theorem dL_law_1264 : decode cL_law 1264 = .ok (.iload 4, 2) := by decide +kernel
theorem dL_law_1266 : decode cL_law 1266 = .ok (.bipush 6, 2) := by decide +kernel
theorem dL_law_1268 : decode cL_law 1268 = .ok (.iadd, 1) := by decide +kernel
theorem dL_law_1269 : decode cL_law 1269 = .ok (.iaload, 1) := by decide +kernel
theorem dL_law_1270 : decode cL_law 1270 = .ok (.aload_n 0, 1) := by decide +kernel
theorem dL_law_1271 : decode cL_law 1271 = .ok (.iload 4, 2) := by decide +kernel
theorem dL_law_1273 : decode cL_law 1273 = .ok (.bipush 7, 2) := by decide +kernel
theorem dL_law_1275 : decode cL_law 1275 = .ok (.iadd, 1) := by decide +kernel
theorem dL_law_1276 : decode cL_law 1276 = .ok (.iaload, 1) := by decide +kernel
theorem dL_law_1277 : decode cL_law 1277 = .ok (.ifCond .eq 7, 3) := by decide +kernel
theorem dL_law_1280 : decode cL_law 1280 = .ok (.iconst 1, 1) := by decide +kernel
theorem dL_law_1281 : decode cL_law 1281 = .ok (.goto 4, 3) := by decide +kernel
theorem dL_law_1284 : decode cL_law 1284 = .ok (.iconst 0, 1) := by decide +kernel
theorem dL_law_1285 : decode cL_law 1285 = .ok (.invokevirtual 91, 3) := by decide +kernel
theorem dL_law_1288 : decode cL_law 1288 = .ok (.pop2, 1) := by decide +kernel
theorem dL_law_1289 : decode cL_law 1289 = .ok (.aload_n 2, 1) := by decide +kernel
theorem dL_law_1290 : decode cL_law 1290 = .ok (.aload_n 0, 1) := by decide +kernel
theorem dL_law_1291 : decode cL_law 1291 = .ok (.iload 4, 2) := by decide +kernel
theorem dL_law_1293 : decode cL_law 1293 = .ok (.iconst 1, 1) := by decide +kernel
theorem dL_law_1294 : decode cL_law 1294 = .ok (.iadd, 1) := by decide +kernel
theorem dL_law_1295 : decode cL_law 1295 = .ok (.iaload, 1) := by decide +kernel
theorem dL_law_1296 : decode cL_law 1296 = .ok (.aload_n 0, 1) := by decide +kernel
theorem dL_law_1297 : decode cL_law 1297 = .ok (.iload 4, 2) := by decide +kernel
theorem dL_law_1299 : decode cL_law 1299 = .ok (.iconst 2, 1) := by decide +kernel
theorem dL_law_1300 : decode cL_law 1300 = .ok (.iadd, 1) := by decide +kernel
theorem dL_law_1301 : decode cL_law 1301 = .ok (.iaload, 1) := by decide +kernel
theorem dL_law_1302 : decode cL_law 1302 = .ok (.aload_n 0, 1) := by decide +kernel
theorem dL_law_1303 : decode cL_law 1303 = .ok (.iload 4, 2) := by decide +kernel
theorem dL_law_1305 : decode cL_law 1305 = .ok (.iconst 3, 1) := by decide +kernel
theorem dL_law_1306 : decode cL_law 1306 = .ok (.iadd, 1) := by decide +kernel
theorem dL_law_1307 : decode cL_law 1307 = .ok (.iaload, 1) := by decide +kernel
theorem dL_law_1308 : decode cL_law 1308 = .ok (.aload_n 0, 1) := by decide +kernel
theorem dL_law_1309 : decode cL_law 1309 = .ok (.iload 4, 2) := by decide +kernel
theorem dL_law_1311 : decode cL_law 1311 = .ok (.iconst 4, 1) := by decide +kernel
theorem dL_law_1312 : decode cL_law 1312 = .ok (.iadd, 1) := by decide +kernel
theorem dL_law_1313 : decode cL_law 1313 = .ok (.iaload, 1) := by decide +kernel
theorem dL_law_1314 : decode cL_law 1314 = .ok (.aload_n 0, 1) := by decide +kernel
theorem dL_law_1315 : decode cL_law 1315 = .ok (.iload 4, 2) := by decide +kernel
theorem dL_law_1317 : decode cL_law 1317 = .ok (.iconst 5, 1) := by decide +kernel
theorem dL_law_1318 : decode cL_law 1318 = .ok (.iadd, 1) := by decide +kernel
theorem dL_law_1319 : decode cL_law 1319 = .ok (.iaload, 1) := by decide +kernel
theorem dL_law_1320 : decode cL_law 1320 = .ok (.aload_n 0, 1) := by decide +kernel
theorem dL_law_1321 : decode cL_law 1321 = .ok (.iload 4, 2) := by decide +kernel
theorem dL_law_1323 : decode cL_law 1323 = .ok (.bipush 6, 2) := by decide +kernel
theorem dL_law_1325 : decode cL_law 1325 = .ok (.iadd, 1) := by decide +kernel
theorem dL_law_1326 : decode cL_law 1326 = .ok (.iaload, 1) := by decide +kernel
theorem dL_law_1327 : decode cL_law 1327 = .ok (.aload_n 0, 1) := by decide +kernel
theorem dL_law_1328 : decode cL_law 1328 = .ok (.iload 4, 2) := by decide +kernel
theorem dL_law_1330 : decode cL_law 1330 = .ok (.bipush 7, 2) := by decide +kernel
theorem dL_law_1332 : decode cL_law 1332 = .ok (.iadd, 1) := by decide +kernel
theorem dL_law_1333 : decode cL_law 1333 = .ok (.iaload, 1) := by decide +kernel
theorem dL_law_1334 : decode cL_law 1334 = .ok (.ifCond .eq 7, 3) := by decide +kernel
theorem dL_law_1337 : decode cL_law 1337 = .ok (.iconst 1, 1) := by decide +kernel
theorem dL_law_1338 : decode cL_law 1338 = .ok (.goto 4, 3) := by decide +kernel
theorem dL_law_1341 : decode cL_law 1341 = .ok (.iconst 0, 1) := by decide +kernel
theorem dL_law_1342 : decode cL_law 1342 = .ok (.invokevirtual 94, 3) := by decide +kernel
theorem dL_law_1345 : decode cL_law 1345 = .ok (.pop2, 1) := by decide +kernel
theorem dL_law_1346 : decode cL_law 1346 = .ok (.goto 995, 3) := by decide +kernel
theorem dL_law_1349 : decode cL_law 1349 = .ok (.aload_n 1, 1) := by decide +kernel
theorem dL_law_1350 : decode cL_law 1350 = .ok (.aload_n 0, 1) := by decide +kernel
theorem dL_law_1351 : decode cL_law 1351 = .ok (.iload 4, 2) := by decide +kernel
theorem dL_law_1353 : decode cL_law 1353 = .ok (.iconst 1, 1) := by decide +kernel
theorem dL_law_1354 : decode cL_law 1354 = .ok (.iadd, 1) := by decide +kernel
theorem dL_law_1355 : decode cL_law 1355 = .ok (.iaload, 1) := by decide +kernel
theorem dL_law_1356 : decode cL_law 1356 = .ok (.aload_n 0, 1) := by decide +kernel
theorem dL_law_1357 : decode cL_law 1357 = .ok (.iload 4, 2) := by decide +kernel
theorem dL_law_1359 : decode cL_law 1359 = .ok (.iconst 2, 1) := by decide +kernel
theorem dL_law_1360 : decode cL_law 1360 = .ok (.iadd, 1) := by decide +kernel
theorem dL_law_1361 : decode cL_law 1361 = .ok (.iaload, 1) := by decide +kernel
theorem dL_law_1362 : decode cL_law 1362 = .ok (.aload_n 0, 1) := by decide +kernel
theorem dL_law_1363 : decode cL_law 1363 = .ok (.iload 4, 2) := by decide +kernel
theorem dL_law_1365 : decode cL_law 1365 = .ok (.iconst 3, 1) := by decide +kernel
theorem dL_law_1366 : decode cL_law 1366 = .ok (.iadd, 1) := by decide +kernel
theorem dL_law_1367 : decode cL_law 1367 = .ok (.iaload, 1) := by decide +kernel
theorem dL_law_1368 : decode cL_law 1368 = .ok (.aload_n 0, 1) := by decide +kernel
theorem dL_law_1369 : decode cL_law 1369 = .ok (.iload 4, 2) := by decide +kernel
theorem dL_law_1371 : decode cL_law 1371 = .ok (.iconst 4, 1) := by decide +kernel
theorem dL_law_1372 : decode cL_law 1372 = .ok (.iadd, 1) := by decide +kernel
theorem dL_law_1373 : decode cL_law 1373 = .ok (.iaload, 1) := by decide +kernel
theorem dL_law_1374 : decode cL_law 1374 = .ok (.aload_n 0, 1) := by decide +kernel
theorem dL_law_1375 : decode cL_law 1375 = .ok (.iload 4, 2) := by decide +kernel
theorem dL_law_1377 : decode cL_law 1377 = .ok (.iconst 5, 1) := by decide +kernel
theorem dL_law_1378 : decode cL_law 1378 = .ok (.iadd, 1) := by decide +kernel
theorem dL_law_1379 : decode cL_law 1379 = .ok (.iaload, 1) := by decide +kernel
theorem dL_law_1380 : decode cL_law 1380 = .ok (.aload_n 0, 1) := by decide +kernel
theorem dL_law_1381 : decode cL_law 1381 = .ok (.iload 4, 2) := by decide +kernel
theorem dL_law_1383 : decode cL_law 1383 = .ok (.bipush 6, 2) := by decide +kernel
theorem dL_law_1385 : decode cL_law 1385 = .ok (.iadd, 1) := by decide +kernel
theorem dL_law_1386 : decode cL_law 1386 = .ok (.iaload, 1) := by decide +kernel
theorem dL_law_1387 : decode cL_law 1387 = .ok (.invokevirtual 95, 3) := by decide +kernel
theorem dL_law_1390 : decode cL_law 1390 = .ok (.pop, 1) := by decide +kernel
theorem dL_law_1391 : decode cL_law 1391 = .ok (.aload_n 2, 1) := by decide +kernel
theorem dL_law_1392 : decode cL_law 1392 = .ok (.aload_n 0, 1) := by decide +kernel
theorem dL_law_1393 : decode cL_law 1393 = .ok (.iload 4, 2) := by decide +kernel
theorem dL_law_1395 : decode cL_law 1395 = .ok (.iconst 1, 1) := by decide +kernel
theorem dL_law_1396 : decode cL_law 1396 = .ok (.iadd, 1) := by decide +kernel
theorem dL_law_1397 : decode cL_law 1397 = .ok (.iaload, 1) := by decide +kernel
theorem dL_law_1398 : decode cL_law 1398 = .ok (.aload_n 0, 1) := by decide +kernel
theorem dL_law_1399 : decode cL_law 1399 = .ok (.iload 4, 2) := by decide +kernel
theorem dL_law_1401 : decode cL_law 1401 = .ok (.iconst 2, 1) := by decide +kernel
theorem dL_law_1402 : decode cL_law 1402 = .ok (.iadd, 1) := by decide +kernel
theorem dL_law_1403 : decode cL_law 1403 = .ok (.iaload, 1) := by decide +kernel
theorem dL_law_1404 : decode cL_law 1404 = .ok (.aload_n 0, 1) := by decide +kernel
theorem dL_law_1405 : decode cL_law 1405 = .ok (.iload 4, 2) := by decide +kernel
theorem dL_law_1407 : decode cL_law 1407 = .ok (.iconst 3, 1) := by decide +kernel
theorem dL_law_1408 : decode cL_law 1408 = .ok (.iadd, 1) := by decide +kernel
theorem dL_law_1409 : decode cL_law 1409 = .ok (.iaload, 1) := by decide +kernel
theorem dL_law_1410 : decode cL_law 1410 = .ok (.aload_n 0, 1) := by decide +kernel
theorem dL_law_1411 : decode cL_law 1411 = .ok (.iload 4, 2) := by decide +kernel
theorem dL_law_1413 : decode cL_law 1413 = .ok (.iconst 4, 1) := by decide +kernel
theorem dL_law_1414 : decode cL_law 1414 = .ok (.iadd, 1) := by decide +kernel
theorem dL_law_1415 : decode cL_law 1415 = .ok (.iaload, 1) := by decide +kernel
theorem dL_law_1416 : decode cL_law 1416 = .ok (.aload_n 0, 1) := by decide +kernel
theorem dL_law_1417 : decode cL_law 1417 = .ok (.iload 4, 2) := by decide +kernel
theorem dL_law_1419 : decode cL_law 1419 = .ok (.iconst 5, 1) := by decide +kernel
theorem dL_law_1420 : decode cL_law 1420 = .ok (.iadd, 1) := by decide +kernel
theorem dL_law_1421 : decode cL_law 1421 = .ok (.iaload, 1) := by decide +kernel
theorem dL_law_1422 : decode cL_law 1422 = .ok (.aload_n 0, 1) := by decide +kernel
theorem dL_law_1423 : decode cL_law 1423 = .ok (.iload 4, 2) := by decide +kernel
theorem dL_law_1425 : decode cL_law 1425 = .ok (.bipush 6, 2) := by decide +kernel
theorem dL_law_1427 : decode cL_law 1427 = .ok (.iadd, 1) := by decide +kernel
theorem dL_law_1428 : decode cL_law 1428 = .ok (.iaload, 1) := by decide +kernel
theorem dL_law_1429 : decode cL_law 1429 = .ok (.invokevirtual 99, 3) := by decide +kernel
theorem dL_law_1432 : decode cL_law 1432 = .ok (.pop, 1) := by decide +kernel
theorem dL_law_1433 : decode cL_law 1433 = .ok (.goto 908, 3) := by decide +kernel
theorem dL_law_1436 : decode cL_law 1436 = .ok (.aload_n 1, 1) := by decide +kernel
theorem dL_law_1437 : decode cL_law 1437 = .ok (.aload_n 0, 1) := by decide +kernel
theorem dL_law_1438 : decode cL_law 1438 = .ok (.iload 4, 2) := by decide +kernel
theorem dL_law_1440 : decode cL_law 1440 = .ok (.iconst 1, 1) := by decide +kernel
theorem dL_law_1441 : decode cL_law 1441 = .ok (.iadd, 1) := by decide +kernel
theorem dL_law_1442 : decode cL_law 1442 = .ok (.iaload, 1) := by decide +kernel
theorem dL_law_1443 : decode cL_law 1443 = .ok (.aload_n 0, 1) := by decide +kernel
theorem dL_law_1444 : decode cL_law 1444 = .ok (.iload 4, 2) := by decide +kernel
theorem dL_law_1446 : decode cL_law 1446 = .ok (.iconst 2, 1) := by decide +kernel
theorem dL_law_1447 : decode cL_law 1447 = .ok (.iadd, 1) := by decide +kernel
theorem dL_law_1448 : decode cL_law 1448 = .ok (.iaload, 1) := by decide +kernel
theorem dL_law_1449 : decode cL_law 1449 = .ok (.aload_n 0, 1) := by decide +kernel
theorem dL_law_1450 : decode cL_law 1450 = .ok (.iload 4, 2) := by decide +kernel
theorem dL_law_1452 : decode cL_law 1452 = .ok (.iconst 3, 1) := by decide +kernel
theorem dL_law_1453 : decode cL_law 1453 = .ok (.iadd, 1) := by decide +kernel
theorem dL_law_1454 : decode cL_law 1454 = .ok (.iaload, 1) := by decide +kernel
theorem dL_law_1455 : decode cL_law 1455 = .ok (.aload_n 0, 1) := by decide +kernel
theorem dL_law_1456 : decode cL_law 1456 = .ok (.iload 4, 2) := by decide +kernel
theorem dL_law_1458 : decode cL_law 1458 = .ok (.iconst 4, 1) := by decide +kernel
theorem dL_law_1459 : decode cL_law 1459 = .ok (.iadd, 1) := by decide +kernel
theorem dL_law_1460 : decode cL_law 1460 = .ok (.iaload, 1) := by decide +kernel
theorem dL_law_1461 : decode cL_law 1461 = .ok (.aload_n 0, 1) := by decide +kernel
theorem dL_law_1462 : decode cL_law 1462 = .ok (.iload 4, 2) := by decide +kernel
theorem dL_law_1464 : decode cL_law 1464 = .ok (.iconst 5, 1) := by decide +kernel
theorem dL_law_1465 : decode cL_law 1465 = .ok (.iadd, 1) := by decide +kernel
theorem dL_law_1466 : decode cL_law 1466 = .ok (.iaload, 1) := by decide +kernel
theorem dL_law_1467 : decode cL_law 1467 = .ok (.aload_n 0, 1) := by decide +kernel
theorem dL_law_1468 : decode cL_law 1468 = .ok (.iload 4, 2) := by decide +kernel
theorem dL_law_1470 : decode cL_law 1470 = .ok (.bipush 6, 2) := by decide +kernel
theorem dL_law_1472 : decode cL_law 1472 = .ok (.iadd, 1) := by decide +kernel
theorem dL_law_1473 : decode cL_law 1473 = .ok (.iaload, 1) := by decide +kernel
theorem dL_law_1474 : decode cL_law 1474 = .ok (.ifCond .eq 7, 3) := by decide +kernel
theorem dL_law_1477 : decode cL_law 1477 = .ok (.iconst 1, 1) := by decide +kernel
theorem dL_law_1478 : decode cL_law 1478 = .ok (.goto 4, 3) := by decide +kernel
theorem dL_law_1481 : decode cL_law 1481 = .ok (.iconst 0, 1) := by decide +kernel
theorem dL_law_1482 : decode cL_law 1482 = .ok (.invokevirtual 100, 3) := by decide +kernel
theorem dL_law_1485 : decode cL_law 1485 = .ok (.pop2, 1) := by decide +kernel
theorem dL_law_1486 : decode cL_law 1486 = .ok (.aload_n 2, 1) := by decide +kernel
theorem dL_law_1487 : decode cL_law 1487 = .ok (.aload_n 0, 1) := by decide +kernel
theorem dL_law_1488 : decode cL_law 1488 = .ok (.iload 4, 2) := by decide +kernel
theorem dL_law_1490 : decode cL_law 1490 = .ok (.iconst 1, 1) := by decide +kernel
theorem dL_law_1491 : decode cL_law 1491 = .ok (.iadd, 1) := by decide +kernel
theorem dL_law_1492 : decode cL_law 1492 = .ok (.iaload, 1) := by decide +kernel
theorem dL_law_1493 : decode cL_law 1493 = .ok (.aload_n 0, 1) := by decide +kernel
theorem dL_law_1494 : decode cL_law 1494 = .ok (.iload 4, 2) := by decide +kernel
theorem dL_law_1496 : decode cL_law 1496 = .ok (.iconst 2, 1) := by decide +kernel
theorem dL_law_1497 : decode cL_law 1497 = .ok (.iadd, 1) := by decide +kernel
theorem dL_law_1498 : decode cL_law 1498 = .ok (.iaload, 1) := by decide +kernel
theorem dL_law_1499 : decode cL_law 1499 = .ok (.aload_n 0, 1) := by decide +kernel
theorem dL_law_1500 : decode cL_law 1500 = .ok (.iload 4, 2) := by decide +kernel
theorem dL_law_1502 : decode cL_law 1502 = .ok (.iconst 3, 1) := by decide +kernel
theorem dL_law_1503 : decode cL_law 1503 = .ok (.iadd, 1) := by decide +kernel
theorem dL_law_1504 : decode cL_law 1504 = .ok (.iaload, 1) := by decide +kernel
theorem dL_law_1505 : decode cL_law 1505 = .ok (.aload_n 0, 1) := by decide +kernel
theorem dL_law_1506 : decode cL_law 1506 = .ok (.iload 4, 2) := by decide +kernel
theorem dL_law_1508 : decode cL_law 1508 = .ok (.iconst 4, 1) := by decide +kernel
theorem dL_law_1509 : decode cL_law 1509 = .ok (.iadd, 1) := by decide +kernel
theorem dL_law_1510 : decode cL_law 1510 = .ok (.iaload, 1) := by decide +kernel
theorem dL_law_1511 : decode cL_law 1511 = .ok (.aload_n 0, 1) := by decide +kernel
theorem dL_law_1512 : decode cL_law 1512 = .ok (.iload 4, 2) := by decide +kernel
theorem dL_law_1514 : decode cL_law 1514 = .ok (.iconst 5, 1) := by decide +kernel
theorem dL_law_1515 : decode cL_law 1515 = .ok (.iadd, 1) := by decide +kernel
theorem dL_law_1516 : decode cL_law 1516 = .ok (.iaload, 1) := by decide +kernel
theorem dL_law_1517 : decode cL_law 1517 = .ok (.aload_n 0, 1) := by decide +kernel
theorem dL_law_1518 : decode cL_law 1518 = .ok (.iload 4, 2) := by decide +kernel
theorem dL_law_1520 : decode cL_law 1520 = .ok (.bipush 6, 2) := by decide +kernel
theorem dL_law_1522 : decode cL_law 1522 = .ok (.iadd, 1) := by decide +kernel
theorem dL_law_1523 : decode cL_law 1523 = .ok (.iaload, 1) := by decide +kernel
theorem dL_law_1524 : decode cL_law 1524 = .ok (.ifCond .eq 7, 3) := by decide +kernel
theorem dL_law_1527 : decode cL_law 1527 = .ok (.iconst 1, 1) := by decide +kernel
theorem dL_law_1528 : decode cL_law 1528 = .ok (.goto 4, 3) := by decide +kernel
theorem dL_law_1531 : decode cL_law 1531 = .ok (.iconst 0, 1) := by decide +kernel
theorem dL_law_1532 : decode cL_law 1532 = .ok (.invokevirtual 103, 3) := by decide +kernel
theorem dL_law_1535 : decode cL_law 1535 = .ok (.pop2, 1) := by decide +kernel
theorem dL_law_1536 : decode cL_law 1536 = .ok (.goto 805, 3) := by decide +kernel
theorem dL_law_1539 : decode cL_law 1539 = .ok (.aload_n 1, 1) := by decide +kernel
theorem dL_law_1540 : decode cL_law 1540 = .ok (.aload_n 0, 1) := by decide +kernel
theorem dL_law_1541 : decode cL_law 1541 = .ok (.iload 4, 2) := by decide +kernel
theorem dL_law_1543 : decode cL_law 1543 = .ok (.iconst 1, 1) := by decide +kernel
theorem dL_law_1544 : decode cL_law 1544 = .ok (.iadd, 1) := by decide +kernel
theorem dL_law_1545 : decode cL_law 1545 = .ok (.iaload, 1) := by decide +kernel
theorem dL_law_1546 : decode cL_law 1546 = .ok (.aload_n 0, 1) := by decide +kernel
theorem dL_law_1547 : decode cL_law 1547 = .ok (.iload 4, 2) := by decide +kernel
theorem dL_law_1549 : decode cL_law 1549 = .ok (.iconst 2, 1) := by decide +kernel
theorem dL_law_1550 : decode cL_law 1550 = .ok (.iadd, 1) := by decide +kernel
theorem dL_law_1551 : decode cL_law 1551 = .ok (.iaload, 1) := by decide +kernel
theorem dL_law_1552 : decode cL_law 1552 = .ok (.aload_n 0, 1) := by decide +kernel
theorem dL_law_1553 : decode cL_law 1553 = .ok (.iload 4, 2) := by decide +kernel
theorem dL_law_1555 : decode cL_law 1555 = .ok (.iconst 3, 1) := by decide +kernel
theorem dL_law_1556 : decode cL_law 1556 = .ok (.iadd, 1) := by decide +kernel
theorem dL_law_1557 : decode cL_law 1557 = .ok (.iaload, 1) := by decide +kernel
theorem dL_law_1558 : decode cL_law 1558 = .ok (.aload_n 0, 1) := by decide +kernel
theorem dL_law_1559 : decode cL_law 1559 = .ok (.iload 4, 2) := by decide +kernel
theorem dL_law_1561 : decode cL_law 1561 = .ok (.iconst 4, 1) := by decide +kernel
theorem dL_law_1562 : decode cL_law 1562 = .ok (.iadd, 1) := by decide +kernel
theorem dL_law_1563 : decode cL_law 1563 = .ok (.iaload, 1) := by decide +kernel
theorem dL_law_1564 : decode cL_law 1564 = .ok (.aload_n 0, 1) := by decide +kernel
theorem dL_law_1565 : decode cL_law 1565 = .ok (.iload 4, 2) := by decide +kernel
theorem dL_law_1567 : decode cL_law 1567 = .ok (.iconst 5, 1) := by decide +kernel
theorem dL_law_1568 : decode cL_law 1568 = .ok (.iadd, 1) := by decide +kernel
theorem dL_law_1569 : decode cL_law 1569 = .ok (.iaload, 1) := by decide +kernel
theorem dL_law_1570 : decode cL_law 1570 = .ok (.invokevirtual 104, 3) := by decide +kernel
theorem dL_law_1573 : decode cL_law 1573 = .ok (.pop, 1) := by decide +kernel
theorem dL_law_1574 : decode cL_law 1574 = .ok (.aload_n 2, 1) := by decide +kernel
theorem dL_law_1575 : decode cL_law 1575 = .ok (.aload_n 0, 1) := by decide +kernel
theorem dL_law_1576 : decode cL_law 1576 = .ok (.iload 4, 2) := by decide +kernel
theorem dL_law_1578 : decode cL_law 1578 = .ok (.iconst 1, 1) := by decide +kernel
theorem dL_law_1579 : decode cL_law 1579 = .ok (.iadd, 1) := by decide +kernel
theorem dL_law_1580 : decode cL_law 1580 = .ok (.iaload, 1) := by decide +kernel
theorem dL_law_1581 : decode cL_law 1581 = .ok (.aload_n 0, 1) := by decide +kernel
theorem dL_law_1582 : decode cL_law 1582 = .ok (.iload 4, 2) := by decide +kernel
theorem dL_law_1584 : decode cL_law 1584 = .ok (.iconst 2, 1) := by decide +kernel
theorem dL_law_1585 : decode cL_law 1585 = .ok (.iadd, 1) := by decide +kernel
theorem dL_law_1586 : decode cL_law 1586 = .ok (.iaload, 1) := by decide +kernel
theorem dL_law_1587 : decode cL_law 1587 = .ok (.aload_n 0, 1) := by decide +kernel
theorem dL_law_1588 : decode cL_law 1588 = .ok (.iload 4, 2) := by decide +kernel
theorem dL_law_1590 : decode cL_law 1590 = .ok (.iconst 3, 1) := by decide +kernel
theorem dL_law_1591 : decode cL_law 1591 = .ok (.iadd, 1) := by decide +kernel
theorem dL_law_1592 : decode cL_law 1592 = .ok (.iaload, 1) := by decide +kernel
theorem dL_law_1593 : decode cL_law 1593 = .ok (.aload_n 0, 1) := by decide +kernel
theorem dL_law_1594 : decode cL_law 1594 = .ok (.iload 4, 2) := by decide +kernel
theorem dL_law_1596 : decode cL_law 1596 = .ok (.iconst 4, 1) := by decide +kernel
theorem dL_law_1597 : decode cL_law 1597 = .ok (.iadd, 1) := by decide +kernel
theorem dL_law_1598 : decode cL_law 1598 = .ok (.iaload, 1) := by decide +kernel
theorem dL_law_1599 : decode cL_law 1599 = .ok (.aload_n 0, 1) := by decide +kernel
theorem dL_law_1600 : decode cL_law 1600 = .ok (.iload 4, 2) := by decide +kernel
theorem dL_law_1602 : decode cL_law 1602 = .ok (.iconst 5, 1) := by decide +kernel
theorem dL_law_1603 : decode cL_law 1603 = .ok (.iadd, 1) := by decide +kernel
theorem dL_law_1604 : decode cL_law 1604 = .ok (.iaload, 1) := by decide +kernel
theorem dL_law_1605 : decode cL_law 1605 = .ok (.invokevirtual 107, 3) := by decide +kernel
theorem dL_law_1608 : decode cL_law 1608 = .ok (.pop, 1) := by decide +kernel
theorem dL_law_1609 : decode cL_law 1609 = .ok (.goto 732, 3) := by decide +kernel
theorem dL_law_1612 : decode cL_law 1612 = .ok (.aload_n 1, 1) := by decide +kernel
theorem dL_law_1613 : decode cL_law 1613 = .ok (.aload_n 0, 1) := by decide +kernel
theorem dL_law_1614 : decode cL_law 1614 = .ok (.iload 4, 2) := by decide +kernel
theorem dL_law_1616 : decode cL_law 1616 = .ok (.iconst 1, 1) := by decide +kernel
theorem dL_law_1617 : decode cL_law 1617 = .ok (.iadd, 1) := by decide +kernel
theorem dL_law_1618 : decode cL_law 1618 = .ok (.iaload, 1) := by decide +kernel
theorem dL_law_1619 : decode cL_law 1619 = .ok (.aload_n 0, 1) := by decide +kernel
theorem dL_law_1620 : decode cL_law 1620 = .ok (.iload 4, 2) := by decide +kernel
theorem dL_law_1622 : decode cL_law 1622 = .ok (.iconst 2, 1) := by decide +kernel
theorem dL_law_1623 : decode cL_law 1623 = .ok (.iadd, 1) := by decide +kernel
theorem dL_law_1624 : decode cL_law 1624 = .ok (.iaload, 1) := by decide +kernel
theorem dL_law_1625 : decode cL_law 1625 = .ok (.aload_n 0, 1) := by decide +kernel
theorem dL_law_1626 : decode cL_law 1626 = .ok (.iload 4, 2) := by decide +kernel
theorem dL_law_1628 : decode cL_law 1628 = .ok (.iconst 3, 1) := by decide +kernel
theorem dL_law_1629 : decode cL_law 1629 = .ok (.iadd, 1) := by decide +kernel
theorem dL_law_1630 : decode cL_law 1630 = .ok (.iaload, 1) := by decide +kernel
theorem dL_law_1631 : decode cL_law 1631 = .ok (.aload_n 0, 1) := by decide +kernel
theorem dL_law_1632 : decode cL_law 1632 = .ok (.iload 4, 2) := by decide +kernel
theorem dL_law_1634 : decode cL_law 1634 = .ok (.iconst 4, 1) := by decide +kernel
theorem dL_law_1635 : decode cL_law 1635 = .ok (.iadd, 1) := by decide +kernel
theorem dL_law_1636 : decode cL_law 1636 = .ok (.iaload, 1) := by decide +kernel
theorem dL_law_1637 : decode cL_law 1637 = .ok (.aload_n 0, 1) := by decide +kernel
theorem dL_law_1638 : decode cL_law 1638 = .ok (.iload 4, 2) := by decide +kernel
theorem dL_law_1640 : decode cL_law 1640 = .ok (.iconst 5, 1) := by decide +kernel
theorem dL_law_1641 : decode cL_law 1641 = .ok (.iadd, 1) := by decide +kernel
theorem dL_law_1642 : decode cL_law 1642 = .ok (.iaload, 1) := by decide +kernel
theorem dL_law_1643 : decode cL_law 1643 = .ok (.invokevirtual 108, 3) := by decide +kernel
theorem dL_law_1646 : decode cL_law 1646 = .ok (.pop, 1) := by decide +kernel
theorem dL_law_1647 : decode cL_law 1647 = .ok (.aload_n 2, 1) := by decide +kernel
theorem dL_law_1648 : decode cL_law 1648 = .ok (.aload_n 0, 1) := by decide +kernel
theorem dL_law_1649 : decode cL_law 1649 = .ok (.iload 4, 2) := by decide +kernel
theorem dL_law_1651 : decode cL_law 1651 = .ok (.iconst 1, 1) := by decide +kernel
theorem dL_law_1652 : decode cL_law 1652 = .ok (.iadd, 1) := by decide +kernel
theorem dL_law_1653 : decode cL_law 1653 = .ok (.iaload, 1) := by decide +kernel
theorem dL_law_1654 : decode cL_law 1654 = .ok (.aload_n 0, 1) := by decide +kernel
theorem dL_law_1655 : decode cL_law 1655 = .ok (.iload 4, 2) := by decide +kernel
theorem dL_law_1657 : decode cL_law 1657 = .ok (.iconst 2, 1) := by decide +kernel
theorem dL_law_1658 : decode cL_law 1658 = .ok (.iadd, 1) := by decide +kernel
theorem dL_law_1659 : decode cL_law 1659 = .ok (.iaload, 1) := by decide +kernel
theorem dL_law_1660 : decode cL_law 1660 = .ok (.aload_n 0, 1) := by decide +kernel
theorem dL_law_1661 : decode cL_law 1661 = .ok (.iload 4, 2) := by decide +kernel
theorem dL_law_1663 : decode cL_law 1663 = .ok (.iconst 3, 1) := by decide +kernel
theorem dL_law_1664 : decode cL_law 1664 = .ok (.iadd, 1) := by decide +kernel
theorem dL_law_1665 : decode cL_law 1665 = .ok (.iaload, 1) := by decide +kernel
theorem dL_law_1666 : decode cL_law 1666 = .ok (.aload_n 0, 1) := by decide +kernel
theorem dL_law_1667 : decode cL_law 1667 = .ok (.iload 4, 2) := by decide +kernel
theorem dL_law_1669 : decode cL_law 1669 = .ok (.iconst 4, 1) := by decide +kernel
theorem dL_law_1670 : decode cL_law 1670 = .ok (.iadd, 1) := by decide +kernel
theorem dL_law_1671 : decode cL_law 1671 = .ok (.iaload, 1) := by decide +kernel
theorem dL_law_1672 : decode cL_law 1672 = .ok (.aload_n 0, 1) := by decide +kernel
theorem dL_law_1673 : decode cL_law 1673 = .ok (.iload 4, 2) := by decide +kernel
theorem dL_law_1675 : decode cL_law 1675 = .ok (.iconst 5, 1) := by decide +kernel
theorem dL_law_1676 : decode cL_law 1676 = .ok (.iadd, 1) := by decide +kernel
theorem dL_law_1677 : decode cL_law 1677 = .ok (.iaload, 1) := by decide +kernel
theorem dL_law_1678 : decode cL_law 1678 = .ok (.invokevirtual 111, 3) := by decide +kernel
theorem dL_law_1681 : decode cL_law 1681 = .ok (.pop, 1) := by decide +kernel
theorem dL_law_1682 : decode cL_law 1682 = .ok (.goto 659, 3) := by decide +kernel
theorem dL_law_1685 : decode cL_law 1685 = .ok (.aload_n 1, 1) := by decide +kernel
theorem dL_law_1686 : decode cL_law 1686 = .ok (.aload_n 0, 1) := by decide +kernel
theorem dL_law_1687 : decode cL_law 1687 = .ok (.iload 4, 2) := by decide +kernel
theorem dL_law_1689 : decode cL_law 1689 = .ok (.iconst 1, 1) := by decide +kernel
theorem dL_law_1690 : decode cL_law 1690 = .ok (.iadd, 1) := by decide +kernel
theorem dL_law_1691 : decode cL_law 1691 = .ok (.iaload, 1) := by decide +kernel
theorem dL_law_1692 : decode cL_law 1692 = .ok (.aload_n 0, 1) := by decide +kernel
theorem dL_law_1693 : decode cL_law 1693 = .ok (.iload 4, 2) := by decide +kernel
theorem dL_law_1695 : decode cL_law 1695 = .ok (.iconst 2, 1) := by decide +kernel
theorem dL_law_1696 : decode cL_law 1696 = .ok (.iadd, 1) := by decide +kernel
theorem dL_law_1697 : decode cL_law 1697 = .ok (.iaload, 1) := by decide +kernel
theorem dL_law_1698 : decode cL_law 1698 = .ok (.aload_n 0, 1) := by decide +kernel
theorem dL_law_1699 : decode cL_law 1699 = .ok (.iload 4, 2) := by decide +kernel
theorem dL_law_1701 : decode cL_law 1701 = .ok (.iconst 3, 1) := by decide +kernel
theorem dL_law_1702 : decode cL_law 1702 = .ok (.iadd, 1) := by decide +kernel
theorem dL_law_1703 : decode cL_law 1703 = .ok (.iaload, 1) := by decide +kernel
theorem dL_law_1704 : decode cL_law 1704 = .ok (.aload_n 0, 1) := by decide +kernel
theorem dL_law_1705 : decode cL_law 1705 = .ok (.iload 4, 2) := by decide +kernel
theorem dL_law_1707 : decode cL_law 1707 = .ok (.iconst 4, 1) := by decide +kernel
theorem dL_law_1708 : decode cL_law 1708 = .ok (.iadd, 1) := by decide +kernel
theorem dL_law_1709 : decode cL_law 1709 = .ok (.iaload, 1) := by decide +kernel
theorem dL_law_1710 : decode cL_law 1710 = .ok (.aload_n 0, 1) := by decide +kernel
theorem dL_law_1711 : decode cL_law 1711 = .ok (.iload 4, 2) := by decide +kernel
theorem dL_law_1713 : decode cL_law 1713 = .ok (.iconst 5, 1) := by decide +kernel
theorem dL_law_1714 : decode cL_law 1714 = .ok (.iadd, 1) := by decide +kernel
theorem dL_law_1715 : decode cL_law 1715 = .ok (.iaload, 1) := by decide +kernel
theorem dL_law_1716 : decode cL_law 1716 = .ok (.aload_n 0, 1) := by decide +kernel
theorem dL_law_1717 : decode cL_law 1717 = .ok (.iload 4, 2) := by decide +kernel
theorem dL_law_1719 : decode cL_law 1719 = .ok (.bipush 6, 2) := by decide +kernel
theorem dL_law_1721 : decode cL_law 1721 = .ok (.iadd, 1) := by decide +kernel
theorem dL_law_1722 : decode cL_law 1722 = .ok (.iaload, 1) := by decide +kernel
theorem dL_law_1723 : decode cL_law 1723 = .ok (.invokevirtual 112, 3) := by decide +kernel
theorem dL_law_1726 : decode cL_law 1726 = .ok (.pop, 1) := by decide +kernel
theorem dL_law_1727 : decode cL_law 1727 = .ok (.aload_n 2, 1) := by decide +kernel
theorem dL_law_1728 : decode cL_law 1728 = .ok (.aload_n 0, 1) := by decide +kernel
theorem dL_law_1729 : decode cL_law 1729 = .ok (.iload 4, 2) := by decide +kernel
theorem dL_law_1731 : decode cL_law 1731 = .ok (.iconst 1, 1) := by decide +kernel
theorem dL_law_1732 : decode cL_law 1732 = .ok (.iadd, 1) := by decide +kernel
theorem dL_law_1733 : decode cL_law 1733 = .ok (.iaload, 1) := by decide +kernel
theorem dL_law_1734 : decode cL_law 1734 = .ok (.aload_n 0, 1) := by decide +kernel
theorem dL_law_1735 : decode cL_law 1735 = .ok (.iload 4, 2) := by decide +kernel
theorem dL_law_1737 : decode cL_law 1737 = .ok (.iconst 2, 1) := by decide +kernel
theorem dL_law_1738 : decode cL_law 1738 = .ok (.iadd, 1) := by decide +kernel
theorem dL_law_1739 : decode cL_law 1739 = .ok (.iaload, 1) := by decide +kernel
theorem dL_law_1740 : decode cL_law 1740 = .ok (.aload_n 0, 1) := by decide +kernel
theorem dL_law_1741 : decode cL_law 1741 = .ok (.iload 4, 2) := by decide +kernel
theorem dL_law_1743 : decode cL_law 1743 = .ok (.iconst 3, 1) := by decide +kernel
theorem dL_law_1744 : decode cL_law 1744 = .ok (.iadd, 1) := by decide +kernel
theorem dL_law_1745 : decode cL_law 1745 = .ok (.iaload, 1) := by decide +kernel
theorem dL_law_1746 : decode cL_law 1746 = .ok (.aload_n 0, 1) := by decide +kernel
theorem dL_law_1747 : decode cL_law 1747 = .ok (.iload 4, 2) := by decide +kernel
theorem dL_law_1749 : decode cL_law 1749 = .ok (.iconst 4, 1) := by decide +kernel
theorem dL_law_1750 : decode cL_law 1750 = .ok (.iadd, 1) := by decide +kernel
theorem dL_law_1751 : decode cL_law 1751 = .ok (.iaload, 1) := by decide +kernel
theorem dL_law_1752 : decode cL_law 1752 = .ok (.aload_n 0, 1) := by decide +kernel
theorem dL_law_1753 : decode cL_law 1753 = .ok (.iload 4, 2) := by decide +kernel
theorem dL_law_1755 : decode cL_law 1755 = .ok (.iconst 5, 1) := by decide +kernel
theorem dL_law_1756 : decode cL_law 1756 = .ok (.iadd, 1) := by decide +kernel
theorem dL_law_1757 : decode cL_law 1757 = .ok (.iaload, 1) := by decide +kernel
theorem dL_law_1758 : decode cL_law 1758 = .ok (.aload_n 0, 1) := by decide +kernel
theorem dL_law_1759 : decode cL_law 1759 = .ok (.iload 4, 2) := by decide +kernel
theorem dL_law_1761 : decode cL_law 1761 = .ok (.bipush 6, 2) := by decide +kernel
theorem dL_law_1763 : decode cL_law 1763 = .ok (.iadd, 1) := by decide +kernel
theorem dL_law_1764 : decode cL_law 1764 = .ok (.iaload, 1) := by decide +kernel
theorem dL_law_1765 : decode cL_law 1765 = .ok (.invokevirtual 115, 3) := by decide +kernel
theorem dL_law_1768 : decode cL_law 1768 = .ok (.pop, 1) := by decide +kernel
theorem dL_law_1769 : decode cL_law 1769 = .ok (.goto 572, 3) := by decide +kernel
theorem dL_law_1772 : decode cL_law 1772 = .ok (.aload_n 1, 1) := by decide +kernel
theorem dL_law_1773 : decode cL_law 1773 = .ok (.aload_n 0, 1) := by decide +kernel
theorem dL_law_1774 : decode cL_law 1774 = .ok (.iload 4, 2) := by decide +kernel
theorem dL_law_1776 : decode cL_law 1776 = .ok (.iconst 1, 1) := by decide +kernel
theorem dL_law_1777 : decode cL_law 1777 = .ok (.iadd, 1) := by decide +kernel
theorem dL_law_1778 : decode cL_law 1778 = .ok (.iaload, 1) := by decide +kernel
theorem dL_law_1779 : decode cL_law 1779 = .ok (.aload_n 0, 1) := by decide +kernel
theorem dL_law_1780 : decode cL_law 1780 = .ok (.iload 4, 2) := by decide +kernel
theorem dL_law_1782 : decode cL_law 1782 = .ok (.iconst 2, 1) := by decide +kernel
theorem dL_law_1783 : decode cL_law 1783 = .ok (.iadd, 1) := by decide +kernel
theorem dL_law_1784 : decode cL_law 1784 = .ok (.iaload, 1) := by decide +kernel
theorem dL_law_1785 : decode cL_law 1785 = .ok (.aload_n 0, 1) := by decide +kernel
theorem dL_law_1786 : decode cL_law 1786 = .ok (.iload 4, 2) := by decide +kernel
theorem dL_law_1788 : decode cL_law 1788 = .ok (.iconst 3, 1) := by decide +kernel
theorem dL_law_1789 : decode cL_law 1789 = .ok (.iadd, 1) := by decide +kernel
theorem dL_law_1790 : decode cL_law 1790 = .ok (.iaload, 1) := by decide +kernel
theorem dL_law_1791 : decode cL_law 1791 = .ok (.aload_n 0, 1) := by decide +kernel
theorem dL_law_1792 : decode cL_law 1792 = .ok (.iload 4, 2) := by decide +kernel
theorem dL_law_1794 : decode cL_law 1794 = .ok (.iconst 4, 1) := by decide +kernel
theorem dL_law_1795 : decode cL_law 1795 = .ok (.iadd, 1) := by decide +kernel
theorem dL_law_1796 : decode cL_law 1796 = .ok (.iaload, 1) := by decide +kernel
theorem dL_law_1797 : decode cL_law 1797 = .ok (.invokevirtual 116, 3) := by decide +kernel
theorem dL_law_1800 : decode cL_law 1800 = .ok (.pop, 1) := by decide +kernel
theorem dL_law_1801 : decode cL_law 1801 = .ok (.aload_n 2, 1) := by decide +kernel
theorem dL_law_1802 : decode cL_law 1802 = .ok (.aload_n 0, 1) := by decide +kernel
theorem dL_law_1803 : decode cL_law 1803 = .ok (.iload 4, 2) := by decide +kernel
theorem dL_law_1805 : decode cL_law 1805 = .ok (.iconst 1, 1) := by decide +kernel
theorem dL_law_1806 : decode cL_law 1806 = .ok (.iadd, 1) := by decide +kernel
theorem dL_law_1807 : decode cL_law 1807 = .ok (.iaload, 1) := by decide +kernel
theorem dL_law_1808 : decode cL_law 1808 = .ok (.aload_n 0, 1) := by decide +kernel
theorem dL_law_1809 : decode cL_law 1809 = .ok (.iload 4, 2) := by decide +kernel
theorem dL_law_1811 : decode cL_law 1811 = .ok (.iconst 2, 1) := by decide +kernel
theorem dL_law_1812 : decode cL_law 1812 = .ok (.iadd, 1) := by decide +kernel
theorem dL_law_1813 : decode cL_law 1813 = .ok (.iaload, 1) := by decide +kernel
theorem dL_law_1814 : decode cL_law 1814 = .ok (.aload_n 0, 1) := by decide +kernel
theorem dL_law_1815 : decode cL_law 1815 = .ok (.iload 4, 2) := by decide +kernel
theorem dL_law_1817 : decode cL_law 1817 = .ok (.iconst 3, 1) := by decide +kernel
theorem dL_law_1818 : decode cL_law 1818 = .ok (.iadd, 1) := by decide +kernel
theorem dL_law_1819 : decode cL_law 1819 = .ok (.iaload, 1) := by decide +kernel
theorem dL_law_1820 : decode cL_law 1820 = .ok (.aload_n 0, 1) := by decide +kernel
theorem dL_law_1821 : decode cL_law 1821 = .ok (.iload 4, 2) := by decide +kernel
theorem dL_law_1823 : decode cL_law 1823 = .ok (.iconst 4, 1) := by decide +kernel
theorem dL_law_1824 : decode cL_law 1824 = .ok (.iadd, 1) := by decide +kernel
theorem dL_law_1825 : decode cL_law 1825 = .ok (.iaload, 1) := by decide +kernel
theorem dL_law_1826 : decode cL_law 1826 = .ok (.invokevirtual 119, 3) := by decide +kernel
theorem dL_law_1829 : decode cL_law 1829 = .ok (.pop, 1) := by decide +kernel
theorem dL_law_1830 : decode cL_law 1830 = .ok (.goto 511, 3) := by decide +kernel
theorem dL_law_1833 : decode cL_law 1833 = .ok (.aload_n 1, 1) := by decide +kernel
theorem dL_law_1834 : decode cL_law 1834 = .ok (.aload_n 0, 1) := by decide +kernel
theorem dL_law_1835 : decode cL_law 1835 = .ok (.iload 4, 2) := by decide +kernel
theorem dL_law_1837 : decode cL_law 1837 = .ok (.iconst 1, 1) := by decide +kernel
theorem dL_law_1838 : decode cL_law 1838 = .ok (.iadd, 1) := by decide +kernel
theorem dL_law_1839 : decode cL_law 1839 = .ok (.iaload, 1) := by decide +kernel
theorem dL_law_1840 : decode cL_law 1840 = .ok (.invokevirtual 120, 3) := by decide +kernel
theorem dL_law_1843 : decode cL_law 1843 = .ok (.pop, 1) := by decide +kernel
theorem dL_law_1844 : decode cL_law 1844 = .ok (.aload_n 2, 1) := by decide +kernel
theorem dL_law_1845 : decode cL_law 1845 = .ok (.aload_n 0, 1) := by decide +kernel
theorem dL_law_1846 : decode cL_law 1846 = .ok (.iload 4, 2) := by decide +kernel
theorem dL_law_1848 : decode cL_law 1848 = .ok (.iconst 1, 1) := by decide +kernel
theorem dL_law_1849 : decode cL_law 1849 = .ok (.iadd, 1) := by decide +kernel
theorem dL_law_1850 : decode cL_law 1850 = .ok (.iaload, 1) := by decide +kernel
theorem dL_law_1851 : decode cL_law 1851 = .ok (.invokevirtual 123, 3) := by decide +kernel
theorem dL_law_1854 : decode cL_law 1854 = .ok (.pop, 1) := by decide +kernel
theorem dL_law_1855 : decode cL_law 1855 = .ok (.goto 486, 3) := by decide +kernel
theorem dL_law_1858 : decode cL_law 1858 = .ok (.aload_n 1, 1) := by decide +kernel
theorem dL_law_1859 : decode cL_law 1859 = .ok (.aload_n 0, 1) := by decide +kernel
theorem dL_law_1860 : decode cL_law 1860 = .ok (.iload 4, 2) := by decide +kernel
theorem dL_law_1862 : decode cL_law 1862 = .ok (.iconst 1, 1) := by decide +kernel
theorem dL_law_1863 : decode cL_law 1863 = .ok (.iadd, 1) := by decide +kernel
theorem dL_law_1864 : decode cL_law 1864 = .ok (.iaload, 1) := by decide +kernel
theorem dL_law_1865 : decode cL_law 1865 = .ok (.aload_n 0, 1) := by decide +kernel
theorem dL_law_1866 : decode cL_law 1866 = .ok (.iload 4, 2) := by decide +kernel
theorem dL_law_1868 : decode cL_law 1868 = .ok (.iconst 2, 1) := by decide +kernel
theorem dL_law_1869 : decode cL_law 1869 = .ok (.iadd, 1) := by decide +kernel
theorem dL_law_1870 : decode cL_law 1870 = .ok (.iaload, 1) := by decide +kernel
theorem dL_law_1871 : decode cL_law 1871 = .ok (.invokevirtual 124, 3) := by decide +kernel
theorem dL_law_1874 : decode cL_law 1874 = .ok (.pop, 1) := by decide +kernel
theorem dL_law_1875 : decode cL_law 1875 = .ok (.aload_n 2, 1) := by decide +kernel
theorem dL_law_1876 : decode cL_law 1876 = .ok (.aload_n 0, 1) := by decide +kernel
theorem dL_law_1877 : decode cL_law 1877 = .ok (.iload 4, 2) := by decide +kernel
theorem dL_law_1879 : decode cL_law 1879 = .ok (.iconst 1, 1) := by decide +kernel
theorem dL_law_1880 : decode cL_law 1880 = .ok (.iadd, 1) := by decide +kernel
theorem dL_law_1881 : decode cL_law 1881 = .ok (.iaload, 1) := by decide +kernel
theorem dL_law_1882 : decode cL_law 1882 = .ok (.aload_n 0, 1) := by decide +kernel
theorem dL_law_1883 : decode cL_law 1883 = .ok (.iload 4, 2) := by decide +kernel
theorem dL_law_1885 : decode cL_law 1885 = .ok (.iconst 2, 1) := by decide +kernel
theorem dL_law_1886 : decode cL_law 1886 = .ok (.iadd, 1) := by decide +kernel
theorem dL_law_1887 : decode cL_law 1887 = .ok (.iaload, 1) := by decide +kernel
theorem dL_law_1888 : decode cL_law 1888 = .ok (.invokevirtual 128, 3) := by decide +kernel
theorem dL_law_1891 : decode cL_law 1891 = .ok (.pop, 1) := by decide +kernel
theorem dL_law_1892 : decode cL_law 1892 = .ok (.goto 449, 3) := by decide +kernel
theorem dL_law_1895 : decode cL_law 1895 = .ok (.aload_n 1, 1) := by decide +kernel
theorem dL_law_1896 : decode cL_law 1896 = .ok (.invokevirtual 129, 3) := by decide +kernel
theorem dL_law_1899 : decode cL_law 1899 = .ok (.pop, 1) := by decide +kernel
theorem dL_law_1900 : decode cL_law 1900 = .ok (.aload_n 2, 1) := by decide +kernel
theorem dL_law_1901 : decode cL_law 1901 = .ok (.invokevirtual 132, 3) := by decide +kernel
theorem dL_law_1904 : decode cL_law 1904 = .ok (.pop, 1) := by decide +kernel
theorem dL_law_1905 : decode cL_law 1905 = .ok (.goto 436, 3) := by decide +kernel
theorem dL_law_1908 : decode cL_law 1908 = .ok (.aload_n 1, 1) := by decide +kernel
theorem dL_law_1909 : decode cL_law 1909 = .ok (.aload_n 0, 1) := by decide +kernel
theorem dL_law_1910 : decode cL_law 1910 = .ok (.iload 4, 2) := by decide +kernel
theorem dL_law_1912 : decode cL_law 1912 = .ok (.iconst 1, 1) := by decide +kernel
theorem dL_law_1913 : decode cL_law 1913 = .ok (.iadd, 1) := by decide +kernel
theorem dL_law_1914 : decode cL_law 1914 = .ok (.iaload, 1) := by decide +kernel
theorem dL_law_1915 : decode cL_law 1915 = .ok (.aload_n 0, 1) := by decide +kernel
theorem dL_law_1916 : decode cL_law 1916 = .ok (.iload 4, 2) := by decide +kernel
theorem dL_law_1918 : decode cL_law 1918 = .ok (.iconst 2, 1) := by decide +kernel
theorem dL_law_1919 : decode cL_law 1919 = .ok (.iadd, 1) := by decide +kernel
theorem dL_law_1920 : decode cL_law 1920 = .ok (.iaload, 1) := by decide +kernel
theorem dL_law_1921 : decode cL_law 1921 = .ok (.aload_n 0, 1) := by decide +kernel
theorem dL_law_1922 : decode cL_law 1922 = .ok (.iload 4, 2) := by decide +kernel
theorem dL_law_1924 : decode cL_law 1924 = .ok (.iconst 3, 1) := by decide +kernel
theorem dL_law_1925 : decode cL_law 1925 = .ok (.iadd, 1) := by decide +kernel
theorem dL_law_1926 : decode cL_law 1926 = .ok (.iaload, 1) := by decide +kernel
theorem dL_law_1927 : decode cL_law 1927 = .ok (.aload_n 0, 1) := by decide +kernel
theorem dL_law_1928 : decode cL_law 1928 = .ok (.iload 4, 2) := by decide +kernel
theorem dL_law_1930 : decode cL_law 1930 = .ok (.iconst 4, 1) := by decide +kernel
theorem dL_law_1931 : decode cL_law 1931 = .ok (.iadd, 1) := by decide +kernel
theorem dL_law_1932 : decode cL_law 1932 = .ok (.iaload, 1) := by decide +kernel
theorem dL_law_1933 : decode cL_law 1933 = .ok (.invokevirtual 133, 3) := by decide +kernel
theorem dL_law_1936 : decode cL_law 1936 = .ok (.pop, 1) := by decide +kernel
theorem dL_law_1937 : decode cL_law 1937 = .ok (.aload_n 2, 1) := by decide +kernel
theorem dL_law_1938 : decode cL_law 1938 = .ok (.aload_n 0, 1) := by decide +kernel
theorem dL_law_1939 : decode cL_law 1939 = .ok (.iload 4, 2) := by decide +kernel
theorem dL_law_1941 : decode cL_law 1941 = .ok (.iconst 1, 1) := by decide +kernel
theorem dL_law_1942 : decode cL_law 1942 = .ok (.iadd, 1) := by decide +kernel
theorem dL_law_1943 : decode cL_law 1943 = .ok (.iaload, 1) := by decide +kernel
theorem dL_law_1944 : decode cL_law 1944 = .ok (.aload_n 0, 1) := by decide +kernel
theorem dL_law_1945 : decode cL_law 1945 = .ok (.iload 4, 2) := by decide +kernel
theorem dL_law_1947 : decode cL_law 1947 = .ok (.iconst 2, 1) := by decide +kernel
theorem dL_law_1948 : decode cL_law 1948 = .ok (.iadd, 1) := by decide +kernel
theorem dL_law_1949 : decode cL_law 1949 = .ok (.iaload, 1) := by decide +kernel
theorem dL_law_1950 : decode cL_law 1950 = .ok (.aload_n 0, 1) := by decide +kernel
theorem dL_law_1951 : decode cL_law 1951 = .ok (.iload 4, 2) := by decide +kernel
theorem dL_law_1953 : decode cL_law 1953 = .ok (.iconst 3, 1) := by decide +kernel
theorem dL_law_1954 : decode cL_law 1954 = .ok (.iadd, 1) := by decide +kernel
theorem dL_law_1955 : decode cL_law 1955 = .ok (.iaload, 1) := by decide +kernel
theorem dL_law_1956 : decode cL_law 1956 = .ok (.aload_n 0, 1) := by decide +kernel
theorem dL_law_1957 : decode cL_law 1957 = .ok (.iload 4, 2) := by decide +kernel
theorem dL_law_1959 : decode cL_law 1959 = .ok (.iconst 4, 1) := by decide +kernel
theorem dL_law_1960 : decode cL_law 1960 = .ok (.iadd, 1) := by decide +kernel
theorem dL_law_1961 : decode cL_law 1961 = .ok (.iaload, 1) := by decide +kernel
theorem dL_law_1962 : decode cL_law 1962 = .ok (.invokevirtual 136, 3) := by decide +kernel
theorem dL_law_1965 : decode cL_law 1965 = .ok (.pop, 1) := by decide +kernel
theorem dL_law_1966 : decode cL_law 1966 = .ok (.goto 375, 3) := by decide +kernel
theorem dL_law_1969 : decode cL_law 1969 = .ok (.aload_n 1, 1) := by decide +kernel
theorem dL_law_1970 : decode cL_law 1970 = .ok (.aload_n 0, 1) := by decide +kernel
theorem dL_law_1971 : decode cL_law 1971 = .ok (.iload 4, 2) := by decide +kernel
theorem dL_law_1973 : decode cL_law 1973 = .ok (.iconst 1, 1) := by decide +kernel
theorem dL_law_1974 : decode cL_law 1974 = .ok (.iadd, 1) := by decide +kernel
theorem dL_law_1975 : decode cL_law 1975 = .ok (.iaload, 1) := by decide +kernel
theorem dL_law_1976 : decode cL_law 1976 = .ok (.aload_n 0, 1) := by decide +kernel
theorem dL_law_1977 : decode cL_law 1977 = .ok (.iload 4, 2) := by decide +kernel
theorem dL_law_1979 : decode cL_law 1979 = .ok (.iconst 2, 1) := by decide +kernel
theorem dL_law_1980 : decode cL_law 1980 = .ok (.iadd, 1) := by decide +kernel
theorem dL_law_1981 : decode cL_law 1981 = .ok (.iaload, 1) := by decide +kernel
theorem dL_law_1982 : decode cL_law 1982 = .ok (.aload_n 0, 1) := by decide +kernel
theorem dL_law_1983 : decode cL_law 1983 = .ok (.iload 4, 2) := by decide +kernel
theorem dL_law_1985 : decode cL_law 1985 = .ok (.iconst 3, 1) := by decide +kernel
theorem dL_law_1986 : decode cL_law 1986 = .ok (.iadd, 1) := by decide +kernel
theorem dL_law_1987 : decode cL_law 1987 = .ok (.iaload, 1) := by decide +kernel
theorem dL_law_1988 : decode cL_law 1988 = .ok (.invokevirtual 137, 3) := by decide +kernel
theorem dL_law_1991 : decode cL_law 1991 = .ok (.pop, 1) := by decide +kernel
theorem dL_law_1992 : decode cL_law 1992 = .ok (.aload_n 2, 1) := by decide +kernel
theorem dL_law_1993 : decode cL_law 1993 = .ok (.aload_n 0, 1) := by decide +kernel
theorem dL_law_1994 : decode cL_law 1994 = .ok (.iload 4, 2) := by decide +kernel
theorem dL_law_1996 : decode cL_law 1996 = .ok (.iconst 1, 1) := by decide +kernel
theorem dL_law_1997 : decode cL_law 1997 = .ok (.iadd, 1) := by decide +kernel
theorem dL_law_1998 : decode cL_law 1998 = .ok (.iaload, 1) := by decide +kernel
theorem dL_law_1999 : decode cL_law 1999 = .ok (.aload_n 0, 1) := by decide +kernel
theorem dL_law_2000 : decode cL_law 2000 = .ok (.iload 4, 2) := by decide +kernel
theorem dL_law_2002 : decode cL_law 2002 = .ok (.iconst 2, 1) := by decide +kernel
theorem dL_law_2003 : decode cL_law 2003 = .ok (.iadd, 1) := by decide +kernel
theorem dL_law_2004 : decode cL_law 2004 = .ok (.iaload, 1) := by decide +kernel
theorem dL_law_2005 : decode cL_law 2005 = .ok (.aload_n 0, 1) := by decide +kernel
theorem dL_law_2006 : decode cL_law 2006 = .ok (.iload 4, 2) := by decide +kernel
theorem dL_law_2008 : decode cL_law 2008 = .ok (.iconst 3, 1) := by decide +kernel
theorem dL_law_2009 : decode cL_law 2009 = .ok (.iadd, 1) := by decide +kernel
theorem dL_law_2010 : decode cL_law 2010 = .ok (.iaload, 1) := by decide +kernel
theorem dL_law_2011 : decode cL_law 2011 = .ok (.invokevirtual 140, 3) := by decide +kernel
theorem dL_law_2014 : decode cL_law 2014 = .ok (.pop, 1) := by decide +kernel
theorem dL_law_2015 : decode cL_law 2015 = .ok (.goto 326, 3) := by decide +kernel
theorem dL_law_2018 : decode cL_law 2018 = .ok (.aload_n 1, 1) := by decide +kernel
theorem dL_law_2019 : decode cL_law 2019 = .ok (.aload_n 0, 1) := by decide +kernel
theorem dL_law_2020 : decode cL_law 2020 = .ok (.iload 4, 2) := by decide +kernel
theorem dL_law_2022 : decode cL_law 2022 = .ok (.iconst 1, 1) := by decide +kernel
theorem dL_law_2023 : decode cL_law 2023 = .ok (.iadd, 1) := by decide +kernel
theorem dL_law_2024 : decode cL_law 2024 = .ok (.iaload, 1) := by decide +kernel
theorem dL_law_2025 : decode cL_law 2025 = .ok (.invokevirtual 141, 3) := by decide +kernel
theorem dL_law_2028 : decode cL_law 2028 = .ok (.pop, 1) := by decide +kernel
theorem dL_law_2029 : decode cL_law 2029 = .ok (.aload_n 2, 1) := by decide +kernel
theorem dL_law_2030 : decode cL_law 2030 = .ok (.aload_n 0, 1) := by decide +kernel
theorem dL_law_2031 : decode cL_law 2031 = .ok (.iload 4, 2) := by decide +kernel
theorem dL_law_2033 : decode cL_law 2033 = .ok (.iconst 1, 1) := by decide +kernel
theorem dL_law_2034 : decode cL_law 2034 = .ok (.iadd, 1) := by decide +kernel
theorem dL_law_2035 : decode cL_law 2035 = .ok (.iaload, 1) := by decide +kernel
theorem dL_law_2036 : decode cL_law 2036 = .ok (.invokevirtual 145, 3) := by decide +kernel
theorem dL_law_2039 : decode cL_law 2039 = .ok (.pop, 1) := by decide +kernel
theorem dL_law_2040 : decode cL_law 2040 = .ok (.goto 301, 3) := by decide +kernel
theorem dL_law_2043 : decode cL_law 2043 = .ok (.aload_n 1, 1) := by decide +kernel
theorem dL_law_2044 : decode cL_law 2044 = .ok (.aload_n 0, 1) := by decide +kernel
theorem dL_law_2045 : decode cL_law 2045 = .ok (.iload 4, 2) := by decide +kernel
theorem dL_law_2047 : decode cL_law 2047 = .ok (.iconst 1, 1) := by decide +kernel
theorem dL_law_2048 : decode cL_law 2048 = .ok (.iadd, 1) := by decide +kernel
theorem dL_law_2049 : decode cL_law 2049 = .ok (.iaload, 1) := by decide +kernel
theorem dL_law_2050 : decode cL_law 2050 = .ok (.aload_n 0, 1) := by decide +kernel
theorem dL_law_2051 : decode cL_law 2051 = .ok (.iload 4, 2) := by decide +kernel
theorem dL_law_2053 : decode cL_law 2053 = .ok (.iconst 2, 1) := by decide +kernel
theorem dL_law_2054 : decode cL_law 2054 = .ok (.iadd, 1) := by decide +kernel
theorem dL_law_2055 : decode cL_law 2055 = .ok (.iaload, 1) := by decide +kernel
theorem dL_law_2056 : decode cL_law 2056 = .ok (.ifCond .eq 7, 3) := by decide +kernel
theorem dL_law_2059 : decode cL_law 2059 = .ok (.iconst 1, 1) := by decide +kernel
theorem dL_law_2060 : decode cL_law 2060 = .ok (.goto 4, 3) := by decide +kernel
theorem dL_law_2063 : decode cL_law 2063 = .ok (.iconst 0, 1) := by decide +kernel
theorem dL_law_2064 : decode cL_law 2064 = .ok (.invokevirtual 146, 3) := by decide +kernel
theorem dL_law_2067 : decode cL_law 2067 = .ok (.pop2, 1) := by decide +kernel
theorem dL_law_2068 : decode cL_law 2068 = .ok (.aload_n 2, 1) := by decide +kernel
theorem dL_law_2069 : decode cL_law 2069 = .ok (.aload_n 0, 1) := by decide +kernel
theorem dL_law_2070 : decode cL_law 2070 = .ok (.iload 4, 2) := by decide +kernel
theorem dL_law_2072 : decode cL_law 2072 = .ok (.iconst 1, 1) := by decide +kernel
theorem dL_law_2073 : decode cL_law 2073 = .ok (.iadd, 1) := by decide +kernel
theorem dL_law_2074 : decode cL_law 2074 = .ok (.iaload, 1) := by decide +kernel
theorem dL_law_2075 : decode cL_law 2075 = .ok (.aload_n 0, 1) := by decide +kernel
theorem dL_law_2076 : decode cL_law 2076 = .ok (.iload 4, 2) := by decide +kernel
theorem dL_law_2078 : decode cL_law 2078 = .ok (.iconst 2, 1) := by decide +kernel
theorem dL_law_2079 : decode cL_law 2079 = .ok (.iadd, 1) := by decide +kernel
theorem dL_law_2080 : decode cL_law 2080 = .ok (.iaload, 1) := by decide +kernel
theorem dL_law_2081 : decode cL_law 2081 = .ok (.ifCond .eq 7, 3) := by decide +kernel
theorem dL_law_2084 : decode cL_law 2084 = .ok (.iconst 1, 1) := by decide +kernel
theorem dL_law_2085 : decode cL_law 2085 = .ok (.goto 4, 3) := by decide +kernel
theorem dL_law_2088 : decode cL_law 2088 = .ok (.iconst 0, 1) := by decide +kernel
theorem dL_law_2089 : decode cL_law 2089 = .ok (.invokevirtual 150, 3) := by decide +kernel
theorem dL_law_2092 : decode cL_law 2092 = .ok (.pop2, 1) := by decide +kernel
theorem dL_law_2093 : decode cL_law 2093 = .ok (.goto 248, 3) := by decide +kernel
theorem dL_law_2096 : decode cL_law 2096 = .ok (.aload_n 1, 1) := by decide +kernel
theorem dL_law_2097 : decode cL_law 2097 = .ok (.aload_n 0, 1) := by decide +kernel
theorem dL_law_2098 : decode cL_law 2098 = .ok (.iload 4, 2) := by decide +kernel
theorem dL_law_2100 : decode cL_law 2100 = .ok (.iconst 1, 1) := by decide +kernel
theorem dL_law_2101 : decode cL_law 2101 = .ok (.iadd, 1) := by decide +kernel
theorem dL_law_2102 : decode cL_law 2102 = .ok (.iaload, 1) := by decide +kernel
theorem dL_law_2103 : decode cL_law 2103 = .ok (.ifCond .eq 7, 3) := by decide +kernel
theorem dL_law_2106 : decode cL_law 2106 = .ok (.iconst 1, 1) := by decide +kernel
theorem dL_law_2107 : decode cL_law 2107 = .ok (.goto 4, 3) := by decide +kernel
theorem dL_law_2110 : decode cL_law 2110 = .ok (.iconst 0, 1) := by decide +kernel
theorem dL_law_2111 : decode cL_law 2111 = .ok (.invokevirtual 151, 3) := by decide +kernel
theorem dL_law_2114 : decode cL_law 2114 = .ok (.pop2, 1) := by decide +kernel
theorem dL_law_2115 : decode cL_law 2115 = .ok (.aload_n 2, 1) := by decide +kernel
theorem dL_law_2116 : decode cL_law 2116 = .ok (.aload_n 0, 1) := by decide +kernel
theorem dL_law_2117 : decode cL_law 2117 = .ok (.iload 4, 2) := by decide +kernel
theorem dL_law_2119 : decode cL_law 2119 = .ok (.iconst 1, 1) := by decide +kernel
theorem dL_law_2120 : decode cL_law 2120 = .ok (.iadd, 1) := by decide +kernel
theorem dL_law_2121 : decode cL_law 2121 = .ok (.iaload, 1) := by decide +kernel
theorem dL_law_2122 : decode cL_law 2122 = .ok (.ifCond .eq 7, 3) := by decide +kernel
theorem dL_law_2125 : decode cL_law 2125 = .ok (.iconst 1, 1) := by decide +kernel
theorem dL_law_2126 : decode cL_law 2126 = .ok (.goto 4, 3) := by decide +kernel
theorem dL_law_2129 : decode cL_law 2129 = .ok (.iconst 0, 1) := by decide +kernel
theorem dL_law_2130 : decode cL_law 2130 = .ok (.invokevirtual 155, 3) := by decide +kernel
theorem dL_law_2133 : decode cL_law 2133 = .ok (.pop2, 1) := by decide +kernel
theorem dL_law_2134 : decode cL_law 2134 = .ok (.goto 207, 3) := by decide +kernel
theorem dL_law_2137 : decode cL_law 2137 = .ok (.aload_n 1, 1) := by decide +kernel
theorem dL_law_2138 : decode cL_law 2138 = .ok (.invokevirtual 156, 3) := by decide +kernel
theorem dL_law_2141 : decode cL_law 2141 = .ok (.pop, 1) := by decide +kernel
theorem dL_law_2142 : decode cL_law 2142 = .ok (.aload_n 2, 1) := by decide +kernel
theorem dL_law_2143 : decode cL_law 2143 = .ok (.invokevirtual 159, 3) := by decide +kernel
theorem dL_law_2146 : decode cL_law 2146 = .ok (.pop, 1) := by decide +kernel
theorem dL_law_2147 : decode cL_law 2147 = .ok (.goto 194, 3) := by decide +kernel
theorem dL_law_2150 : decode cL_law 2150 = .ok (.aload_n 1, 1) := by decide +kernel
theorem dL_law_2151 : decode cL_law 2151 = .ok (.invokevirtual 160, 3) := by decide +kernel
theorem dL_law_2154 : decode cL_law 2154 = .ok (.pop, 1) := by decide +kernel
theorem dL_law_2155 : decode cL_law 2155 = .ok (.aload_n 2, 1) := by decide +kernel
theorem dL_law_2156 : decode cL_law 2156 = .ok (.invokevirtual 164, 3) := by decide +kernel
theorem dL_law_2159 : decode cL_law 2159 = .ok (.pop, 1) := by decide +kernel
theorem dL_law_2160 : decode cL_law 2160 = .ok (.goto 181, 3) := by decide +kernel
theorem dL_law_2163 : decode cL_law 2163 = .ok (.aload_n 1, 1) := by decide +kernel
theorem dL_law_2164 : decode cL_law 2164 = .ok (.invokevirtual 165, 3) := by decide +kernel
theorem dL_law_2167 : decode cL_law 2167 = .ok (.pop, 1) := by decide +kernel
theorem dL_law_2168 : decode cL_law 2168 = .ok (.aload_n 2, 1) := by decide +kernel
theorem dL_law_2169 : decode cL_law 2169 = .ok (.invokevirtual 168, 3) := by decide +kernel
theorem dL_law_2172 : decode cL_law 2172 = .ok (.pop, 1) := by decide +kernel
theorem dL_law_2173 : decode cL_law 2173 = .ok (.goto 168, 3) := by decide +kernel
theorem dL_law_2176 : decode cL_law 2176 = .ok (.aload_n 1, 1) := by decide +kernel
theorem dL_law_2177 : decode cL_law 2177 = .ok (.aload_n 0, 1) := by decide +kernel
theorem dL_law_2178 : decode cL_law 2178 = .ok (.iload 4, 2) := by decide +kernel
theorem dL_law_2180 : decode cL_law 2180 = .ok (.iconst 1, 1) := by decide +kernel
theorem dL_law_2181 : decode cL_law 2181 = .ok (.iadd, 1) := by decide +kernel
theorem dL_law_2182 : decode cL_law 2182 = .ok (.iaload, 1) := by decide +kernel
theorem dL_law_2183 : decode cL_law 2183 = .ok (.invokevirtual 169, 3) := by decide +kernel
theorem dL_law_2186 : decode cL_law 2186 = .ok (.pop, 1) := by decide +kernel
theorem dL_law_2187 : decode cL_law 2187 = .ok (.aload_n 2, 1) := by decide +kernel
theorem dL_law_2188 : decode cL_law 2188 = .ok (.aload_n 0, 1) := by decide +kernel
theorem dL_law_2189 : decode cL_law 2189 = .ok (.iload 4, 2) := by decide +kernel
theorem dL_law_2191 : decode cL_law 2191 = .ok (.iconst 1, 1) := by decide +kernel
theorem dL_law_2192 : decode cL_law 2192 = .ok (.iadd, 1) := by decide +kernel
theorem dL_law_2193 : decode cL_law 2193 = .ok (.iaload, 1) := by decide +kernel
theorem dL_law_2194 : decode cL_law 2194 = .ok (.invokevirtual 172, 3) := by decide +kernel
theorem dL_law_2197 : decode cL_law 2197 = .ok (.pop, 1) := by decide +kernel
theorem dL_law_2198 : decode cL_law 2198 = .ok (.goto 143, 3) := by decide +kernel
theorem dL_law_2201 : decode cL_law 2201 = .ok (.aload_n 1, 1) := by decide +kernel
theorem dL_law_2202 : decode cL_law 2202 = .ok (.aload_n 0, 1) := by decide +kernel
theorem dL_law_2203 : decode cL_law 2203 = .ok (.iload 4, 2) := by decide +kernel
theorem dL_law_2205 : decode cL_law 2205 = .ok (.iconst 1, 1) := by decide +kernel
theorem dL_law_2206 : decode cL_law 2206 = .ok (.iadd, 1) := by decide +kernel
theorem dL_law_2207 : decode cL_law 2207 = .ok (.iaload, 1) := by decide +kernel
theorem dL_law_2208 : decode cL_law 2208 = .ok (.aload_n 0, 1) := by decide +kernel
theorem dL_law_2209 : decode cL_law 2209 = .ok (.iload 4, 2) := by decide +kernel
theorem dL_law_2211 : decode cL_law 2211 = .ok (.iconst 2, 1) := by decide +kernel
theorem dL_law_2212 : decode cL_law 2212 = .ok (.iadd, 1) := by decide +kernel
theorem dL_law_2213 : decode cL_law 2213 = .ok (.iaload, 1) := by decide +kernel
theorem dL_law_2214 : decode cL_law 2214 = .ok (.invokevirtual 173, 3) := by decide +kernel
theorem dL_law_2217 : decode cL_law 2217 = .ok (.aload_n 2, 1) := by decide +kernel
theorem dL_law_2218 : decode cL_law 2218 = .ok (.aload_n 0, 1) := by decide +kernel
theorem dL_law_2219 : decode cL_law 2219 = .ok (.iload 4, 2) := by decide +kernel
theorem dL_law_2221 : decode cL_law 2221 = .ok (.iconst 1, 1) := by decide +kernel
theorem dL_law_2222 : decode cL_law 2222 = .ok (.iadd, 1) := by decide +kernel
theorem dL_law_2223 : decode cL_law 2223 = .ok (.iaload, 1) := by decide +kernel
theorem dL_law_2224 : decode cL_law 2224 = .ok (.aload_n 0, 1) := by decide +kernel
theorem dL_law_2225 : decode cL_law 2225 = .ok (.iload 4, 2) := by decide +kernel
theorem dL_law_2227 : decode cL_law 2227 = .ok (.iconst 2, 1) := by decide +kernel
theorem dL_law_2228 : decode cL_law 2228 = .ok (.iadd, 1) := by decide +kernel
theorem dL_law_2229 : decode cL_law 2229 = .ok (.iaload, 1) := by decide +kernel
theorem dL_law_2230 : decode cL_law 2230 = .ok (.invokevirtual 176, 3) := by decide +kernel
theorem dL_law_2233 : decode cL_law 2233 = .ok (.if_icmp .eq 108, 3) := by decide +kernel
theorem dL_law_2236 : decode cL_law 2236 = .ok (.iconst 0, 1) := by decide +kernel
theorem dL_law_2237 : decode cL_law 2237 = .ok (.ireturn, 1) := by decide +kernel
theorem dL_law_2238 : decode cL_law 2238 = .ok (.aload_n 1, 1) := by decide +kernel
theorem dL_law_2239 : decode cL_law 2239 = .ok (.aload_n 0, 1) := by decide +kernel
theorem dL_law_2240 : decode cL_law 2240 = .ok (.iload 4, 2) := by decide +kernel
theorem dL_law_2242 : decode cL_law 2242 = .ok (.iconst 1, 1) := by decide +kernel
theorem dL_law_2243 : decode cL_law 2243 = .ok (.iadd, 1) := by decide +kernel
theorem dL_law_2244 : decode cL_law 2244 = .ok (.iaload, 1) := by decide +kernel
theorem dL_law_2245 : decode cL_law 2245 = .ok (.aload_n 0, 1) := by decide +kernel
theorem dL_law_2246 : decode cL_law 2246 = .ok (.iload 4, 2) := by decide +kernel
theorem dL_law_2248 : decode cL_law 2248 = .ok (.iconst 2, 1) := by decide +kernel
theorem dL_law_2249 : decode cL_law 2249 = .ok (.iadd, 1) := by decide +kernel
theorem dL_law_2250 : decode cL_law 2250 = .ok (.iaload, 1) := by decide +kernel
theorem dL_law_2251 : decode cL_law 2251 = .ok (.invokevirtual 177, 3) := by decide +kernel
theorem dL_law_2254 : decode cL_law 2254 = .ok (.pop, 1) := by decide +kernel
theorem dL_law_2255 : decode cL_law 2255 = .ok (.aload_n 2, 1) := by decide +kernel
theorem dL_law_2256 : decode cL_law 2256 = .ok (.aload_n 0, 1) := by decide +kernel
theorem dL_law_2257 : decode cL_law 2257 = .ok (.iload 4, 2) := by decide +kernel
theorem dL_law_2259 : decode cL_law 2259 = .ok (.iconst 1, 1) := by decide +kernel
theorem dL_law_2260 : decode cL_law 2260 = .ok (.iadd, 1) := by decide +kernel
theorem dL_law_2261 : decode cL_law 2261 = .ok (.iaload, 1) := by decide +kernel
theorem dL_law_2262 : decode cL_law 2262 = .ok (.aload_n 0, 1) := by decide +kernel
theorem dL_law_2263 : decode cL_law 2263 = .ok (.iload 4, 2) := by decide +kernel
theorem dL_law_2265 : decode cL_law 2265 = .ok (.iconst 2, 1) := by decide +kernel
theorem dL_law_2266 : decode cL_law 2266 = .ok (.iadd, 1) := by decide +kernel
theorem dL_law_2267 : decode cL_law 2267 = .ok (.iaload, 1) := by decide +kernel
theorem dL_law_2268 : decode cL_law 2268 = .ok (.invokevirtual 180, 3) := by decide +kernel
theorem dL_law_2271 : decode cL_law 2271 = .ok (.pop, 1) := by decide +kernel
theorem dL_law_2272 : decode cL_law 2272 = .ok (.goto 69, 3) := by decide +kernel
theorem dL_law_2275 : decode cL_law 2275 = .ok (.aload_n 1, 1) := by decide +kernel
theorem dL_law_2276 : decode cL_law 2276 = .ok (.aload_n 0, 1) := by decide +kernel
theorem dL_law_2277 : decode cL_law 2277 = .ok (.iload 4, 2) := by decide +kernel
theorem dL_law_2279 : decode cL_law 2279 = .ok (.iconst 1, 1) := by decide +kernel
theorem dL_law_2280 : decode cL_law 2280 = .ok (.iadd, 1) := by decide +kernel
theorem dL_law_2281 : decode cL_law 2281 = .ok (.iaload, 1) := by decide +kernel
theorem dL_law_2282 : decode cL_law 2282 = .ok (.aload_n 3, 1) := by decide +kernel
theorem dL_law_2283 : decode cL_law 2283 = .ok (.invokestatic 181, 3) := by decide +kernel
theorem dL_law_2286 : decode cL_law 2286 = .ok (.istore 5, 2) := by decide +kernel
theorem dL_law_2288 : decode cL_law 2288 = .ok (.aload_n 2, 1) := by decide +kernel
theorem dL_law_2289 : decode cL_law 2289 = .ok (.aload_n 0, 1) := by decide +kernel
theorem dL_law_2290 : decode cL_law 2290 = .ok (.iload 4, 2) := by decide +kernel
theorem dL_law_2292 : decode cL_law 2292 = .ok (.iconst 1, 1) := by decide +kernel
theorem dL_law_2293 : decode cL_law 2293 = .ok (.iadd, 1) := by decide +kernel
theorem dL_law_2294 : decode cL_law 2294 = .ok (.iaload, 1) := by decide +kernel
theorem dL_law_2295 : decode cL_law 2295 = .ok (.invokevirtual 186, 3) := by decide +kernel
theorem dL_law_2298 : decode cL_law 2298 = .ok (.istore 6, 2) := by decide +kernel
theorem dL_law_2300 : decode cL_law 2300 = .ok (.goto 41, 3) := by decide +kernel
theorem dL_law_2303 : decode cL_law 2303 = .ok (.aload_n 1, 1) := by decide +kernel
theorem dL_law_2304 : decode cL_law 2304 = .ok (.aload_n 0, 1) := by decide +kernel
theorem dL_law_2305 : decode cL_law 2305 = .ok (.iload 4, 2) := by decide +kernel
theorem dL_law_2307 : decode cL_law 2307 = .ok (.iconst 1, 1) := by decide +kernel
theorem dL_law_2308 : decode cL_law 2308 = .ok (.iadd, 1) := by decide +kernel
theorem dL_law_2309 : decode cL_law 2309 = .ok (.iaload, 1) := by decide +kernel
theorem dL_law_2310 : decode cL_law 2310 = .ok (.invokevirtual 187, 3) := by decide +kernel
theorem dL_law_2313 : decode cL_law 2313 = .ok (.pop, 1) := by decide +kernel
theorem dL_law_2314 : decode cL_law 2314 = .ok (.aload_n 2, 1) := by decide +kernel
theorem dL_law_2315 : decode cL_law 2315 = .ok (.aload_n 0, 1) := by decide +kernel
theorem dL_law_2316 : decode cL_law 2316 = .ok (.iload 4, 2) := by decide +kernel
theorem dL_law_2318 : decode cL_law 2318 = .ok (.iconst 1, 1) := by decide +kernel
theorem dL_law_2319 : decode cL_law 2319 = .ok (.iadd, 1) := by decide +kernel
theorem dL_law_2320 : decode cL_law 2320 = .ok (.iaload, 1) := by decide +kernel
theorem dL_law_2321 : decode cL_law 2321 = .ok (.invokevirtual 190, 3) := by decide +kernel
theorem dL_law_2324 : decode cL_law 2324 = .ok (.pop, 1) := by decide +kernel
theorem dL_law_2325 : decode cL_law 2325 = .ok (.goto 16, 3) := by decide +kernel
theorem dL_law_2328 : decode cL_law 2328 = .ok (.aload_n 1, 1) := by decide +kernel
theorem dL_law_2329 : decode cL_law 2329 = .ok (.invokevirtual 191, 3) := by decide +kernel
theorem dL_law_2332 : decode cL_law 2332 = .ok (.pop, 1) := by decide +kernel
theorem dL_law_2333 : decode cL_law 2333 = .ok (.aload_n 2, 1) := by decide +kernel
theorem dL_law_2334 : decode cL_law 2334 = .ok (.invokevirtual 194, 3) := by decide +kernel
theorem dL_law_2337 : decode cL_law 2337 = .ok (.pop, 1) := by decide +kernel
theorem dL_law_2338 : decode cL_law 2338 = .ok (.goto 3, 3) := by decide +kernel
theorem dL_law_2341 : decode cL_law 2341 = .ok (.iinc 4 8, 3) := by decide +kernel
theorem dL_law_2344 : decode cL_law 2344 = .ok (.goto (-2321), 3) := by decide +kernel
theorem dL_law_2347 : decode cL_law 2347 = .ok (.iconst 1, 1) := by decide +kernel
theorem dL_law_2348 : decode cL_law 2348 = .ok (.ireturn, 1) := by decide +kernel
