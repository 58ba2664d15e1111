section
theorem fL_X0_18 : FL RX0 18 0 4 2 := ⟨_, rfl, by decide, by decide, g_368, rfl⟩
theorem fL_X0_22 : FL RX0 22 0 5 2 := ⟨_, rfl, by decide, by decide, g_370, rfl⟩
theorem fL_X0_26 : FL RX0 26 0 6 2 := ⟨_, rfl, by decide, by decide, g_371, rfl⟩
theorem fL_X0_29 : FL RX0 29 0 2 0 := ⟨_, rfl, by decide, by decide, g_364, rfl⟩
theorem fL_X0_32 : FL RX0 32 0 3 0 := ⟨_, rfl, by decide, by decide, g_366, rfl⟩
theorem fL_X0_38 : FL RX0 38 2 0 0 := ⟨_, rfl, by decide, by decide, g_344, rfl⟩
theorem fL_X0_41 : FL RX0 41 2 1 0 := ⟨_, rfl, by decide, by decide, g_347, rfl⟩
theorem fL_X0_44 : FL RX0 44 2 2 2 := ⟨_, rfl, by decide, by decide, g_350, rfl⟩
theorem fL_X0_48 : FL RX0 48 0 1 0 := ⟨_, rfl, by decide, by decide, g_362, rfl⟩
theorem fL_X0_51 : FL RX0 51 8 1 0 := ⟨_, rfl, by decide, by decide, g_149, rfl⟩
theorem fL_X0_57 : FL RX0 57 8 6 2 := ⟨_, rfl, by decide, by decide, g_168, rfl⟩
theorem fL_X0_61 : FL RX0 61 3 4 0 := ⟨_, rfl, by decide, by decide, g_56, rfl⟩
theorem fL_X0_9 : FL RX0 9 0 0 0 := ⟨_, rfl, by decide, by decide, g_360, rfl⟩
theorem fL_X10_15 : FL RX10 15 10 8 2 := ⟨_, rfl, by decide, by decide, g_1270, rfl⟩
theorem fL_X10_18 : FL RX10 18 10 9 2 := ⟨_, rfl, by decide, by decide, g_1272, rfl⟩
theorem fL_X10_21 : FL RX10 21 10 10 2 := ⟨_, rfl, by decide, by decide, g_1274, rfl⟩
theorem fL_X10_24 : FL RX10 24 10 11 2 := ⟨_, rfl, by decide, by decide, g_1276, rfl⟩
theorem fL_X10_27 : FL RX10 27 10 12 2 := ⟨_, rfl, by decide, by decide, g_1278, rfl⟩
theorem fL_X10_30 : FL RX10 30 10 13 2 := ⟨_, rfl, by decide, by decide, g_1280, rfl⟩
theorem fL_X10_33 : FL RX10 33 10 14 2 := ⟨_, rfl, by decide, by decide, g_1282, rfl⟩
theorem fL_X10_36 : FL RX10 36 10 15 2 := ⟨_, rfl, by decide, by decide, g_1284, rfl⟩
theorem fL_X10_39 : FL RX10 39 10 16 2 := ⟨_, rfl, by decide, by decide, g_1286, rfl⟩
theorem fL_X10_42 : FL RX10 42 10 17 2 := ⟨_, rfl, by decide, by decide, g_1288, rfl⟩
theorem fL_X10_45 : FL RX10 45 10 18 2 := ⟨_, rfl, by decide, by decide, g_1290, rfl⟩
theorem fL_X10_49 : FL RX10 49 10 19 2 := ⟨_, rfl, by decide, by decide, g_1292, rfl⟩
theorem fL_X10_52 : FL RX10 52 10 20 2 := ⟨_, rfl, by decide, by decide, g_1294, rfl⟩
theorem fL_X10_55 : FL RX10 55 10 21 2 := ⟨_, rfl, by decide, by decide, g_1296, rfl⟩
theorem fL_X10_58 : FL RX10 58 10 22 2 := ⟨_, rfl, by decide, by decide, g_1298, rfl⟩
theorem fL_X10_61 : FL RX10 61 10 23 2 := ⟨_, rfl, by decide, by decide, g_1300, rfl⟩
theorem fL_X10_64 : FL RX10 64 10 24 2 := ⟨_, rfl, by decide, by decide, g_1302, rfl⟩
theorem fL_X10_67 : FL RX10 67 10 25 2 := ⟨_, rfl, by decide, by decide, g_1304, rfl⟩
theorem fL_X10_70 : FL RX10 70 10 26 2 := ⟨_, rfl, by decide, by decide, g_1306, rfl⟩
theorem fL_X10_73 : FL RX10 73 10 27 2 := ⟨_, rfl, by decide, by decide, g_1308, rfl⟩
theorem fL_X10_76 : FL RX10 76 10 28 2 := ⟨_, rfl, by decide, by decide, g_1310, rfl⟩
theorem fL_X10_80 : FL RX10 80 10 29 2 := ⟨_, rfl, by decide, by decide, g_1312, rfl⟩
theorem fL_X10_83 : FL RX10 83 10 30 2 := ⟨_, rfl, by decide, by decide, g_1314, rfl⟩
theorem fL_X10_86 : FL RX10 86 10 6 0 := ⟨_, rfl, by decide, by decide, g_1266, rfl⟩
theorem fL_X10_9 : FL RX10 9 10 7 2 := ⟨_, rfl, by decide, by decide, g_1268, rfl⟩
theorem fL_X11_100 : FL RX11 100 11 14 0 := ⟨_, rfl, by decide, by decide, g_1177, rfl⟩
theorem fL_X11_13 : FL RX11 13 11 5 2 := ⟨_, rfl, by decide, by decide, g_1168, rfl⟩
theorem fL_X11_147 : FL RX11 147 11 4 2 := ⟨_, rfl, by decide, by decide, g_1167, rfl⟩
theorem fL_X11_17 : FL RX11 17 11 16 2 := ⟨_, rfl, by decide, by decide, g_1179, rfl⟩
theorem fL_X11_21 : FL RX11 21 11 17 2 := ⟨_, rfl, by decide, by decide, g_1180, rfl⟩
theorem fL_X11_25 : FL RX11 25 11 18 2 := ⟨_, rfl, by decide, by decide, g_1181, rfl⟩
theorem fL_X11_28 : FL RX11 28 11 19 0 := ⟨_, rfl, by decide, by decide, g_1182, rfl⟩
theorem fL_X11_31 : FL RX11 31 11 21 2 := ⟨_, rfl, by decide, by decide, g_1184, rfl⟩
theorem fL_X11_331 : FL RX11 331 11 6 0 := ⟨_, rfl, by decide, by decide, g_1169, rfl⟩
theorem fL_X11_338 : FL RX11 338 11 3 2 := ⟨_, rfl, by decide, by decide, g_1166, rfl⟩
theorem fL_X11_34 : FL RX11 34 11 22 2 := ⟨_, rfl, by decide, by decide, g_1185, rfl⟩
theorem fL_X11_340 : FL RX11 340 11 24 0 := ⟨_, rfl, by decide, by decide, g_1187, rfl⟩
theorem fL_X11_343 : FL RX11 343 11 25 0 := ⟨_, rfl, by decide, by decide, g_1188, rfl⟩
theorem fL_X11_37 : FL RX11 37 11 23 2 := ⟨_, rfl, by decide, by decide, g_1186, rfl⟩
theorem fL_X11_40 : FL RX11 40 11 0 0 := ⟨_, rfl, by decide, by decide, g_1163, rfl⟩
theorem fL_X11_43 : FL RX11 43 11 1 0 := ⟨_, rfl, by decide, by decide, g_1164, rfl⟩
theorem fL_X11_475 : FL RX11 475 11 20 0 := ⟨_, rfl, by decide, by decide, g_1183, rfl⟩
theorem fL_X11_53 : FL RX11 53 11 7 0 := ⟨_, rfl, by decide, by decide, g_1170, rfl⟩
theorem fL_X11_68 : FL RX11 68 11 9 0 := ⟨_, rfl, by decide, by decide, g_1172, rfl⟩
theorem fL_X11_71 : FL RX11 71 11 8 0 := ⟨_, rfl, by decide, by decide, g_1171, rfl⟩
theorem fL_X11_77 : FL RX11 77 11 10 0 := ⟨_, rfl, by decide, by decide, g_1173, rfl⟩
theorem fL_X11_80 : FL RX11 80 11 11 0 := ⟨_, rfl, by decide, by decide, g_1174, rfl⟩
theorem fL_X11_87 : FL RX11 87 11 15 1 := ⟨_, rfl, by decide, by decide, g_1178, rfl⟩
theorem fL_X11_9 : FL RX11 9 11 2 0 := ⟨_, rfl, by decide, by decide, g_1165, rfl⟩
theorem fL_X11_94 : FL RX11 94 11 12 0 := ⟨_, rfl, by decide, by decide, g_1175, rfl⟩
theorem fL_X11_97 : FL RX11 97 11 13 0 := ⟨_, rfl, by decide, by decide, g_1176, rfl⟩
theorem fL_X1_107 : FL RX1 107 8 3 0 := ⟨_, rfl, by decide, by decide, g_159, rfl⟩
theorem fL_X1_112 : FL RX1 112 8 1 0 := ⟨_, rfl, by decide, by decide, g_150, rfl⟩
theorem fL_X1_119 : FL RX1 119 8 10 2 := ⟨_, rfl, by decide, by decide, g_186, rfl⟩
theorem fL_X1_129 : FL RX1 129 8 9 2 := ⟨_, rfl, by decide, by decide, g_183, rfl⟩
theorem fL_X1_136 : FL RX1 136 8 8 2 := ⟨_, rfl, by decide, by decide, g_178, rfl⟩
theorem fL_X1_140 : FL RX1 140 8 6 2 := ⟨_, rfl, by decide, by decide, g_171, rfl⟩
theorem fL_X1_144 : FL RX1 144 8 11 2 := ⟨_, rfl, by decide, by decide, g_189, rfl⟩
theorem fL_X1_15 : FL RX1 15 1 1 2 := ⟨_, rfl, by decide, by decide, g_275, rfl⟩
theorem fL_X1_18 : FL RX1 18 5 3 0 := ⟨_, rfl, by decide, by decide, g_84, rfl⟩
theorem fL_X1_24 : FL RX1 24 5 4 0 := ⟨_, rfl, by decide, by decide, g_87, rfl⟩
theorem fL_X1_27 : FL RX1 27 3 0 0 := ⟨_, rfl, by decide, by decide, g_47, rfl⟩
theorem fL_X1_39 : FL RX1 39 3 1 0 := ⟨_, rfl, by decide, by decide, g_49, rfl⟩
theorem fL_X1_48 : FL RX1 48 3 3 0 := ⟨_, rfl, by decide, by decide, g_53, rfl⟩
theorem fL_X1_57 : FL RX1 57 6 2 0 := ⟨_, rfl, by decide, by decide, g_113, rfl⟩
theorem fL_X1_63 : FL RX1 63 6 3 0 := ⟨_, rfl, by decide, by decide, g_116, rfl⟩
theorem fL_X1_78 : FL RX1 78 6 4 0 := ⟨_, rfl, by decide, by decide, g_118, rfl⟩
theorem fL_X1_81 : FL RX1 81 6 5 0 := ⟨_, rfl, by decide, by decide, g_121, rfl⟩
theorem fL_X1_86 : FL RX1 86 6 6 0 := ⟨_, rfl, by decide, by decide, g_126, rfl⟩
theorem fL_X1_9 : FL RX1 9 1 0 2 := ⟨_, rfl, by decide, by decide, g_273, rfl⟩
theorem fL_X2_15 : FL RX2 15 2 0 0 := ⟨_, rfl, by decide, by decide, g_343, rfl⟩
theorem fL_X2_19 : FL RX2 19 2 1 0 := ⟨_, rfl, by decide, by decide, g_346, rfl⟩
theorem fL_X2_9 : FL RX2 9 2 2 2 := ⟨_, rfl, by decide, by decide, g_349, rfl⟩
theorem fL_X4_104 : FL RX4 104 4 3 0 := ⟨_, rfl, by decide, by decide, g_229, rfl⟩
theorem fL_X4_107 : FL RX4 107 4 4 0 := ⟨_, rfl, by decide, by decide, g_230, rfl⟩
theorem fL_X4_110 : FL RX4 110 4 0 0 := ⟨_, rfl, by decide, by decide, g_224, rfl⟩
theorem fL_X4_113 : FL RX4 113 4 1 0 := ⟨_, rfl, by decide, by decide, g_226, rfl⟩
theorem fL_X4_116 : FL RX4 116 4 10 0 := ⟨_, rfl, by decide, by decide, g_236, rfl⟩
theorem fL_X4_125 : FL RX4 125 4 7 0 := ⟨_, rfl, by decide, by decide, g_233, rfl⟩
theorem fL_X4_132 : FL RX4 132 4 8 1 := ⟨_, rfl, by decide, by decide, g_234, rfl⟩
theorem fL_X4_147 : FL RX4 147 4 9 0 := ⟨_, rfl, by decide, by decide, g_235, rfl⟩
theorem fL_X4_18 : FL RX4 18 4 5 2 := ⟨_, rfl, by decide, by decide, g_231, rfl⟩
theorem fL_X4_185 : FL RX4 185 8 0 0 := ⟨_, rfl, by decide, by decide, g_144, rfl⟩
theorem fL_X4_188 : FL RX4 188 8 6 2 := ⟨_, rfl, by decide, by decide, g_172, rfl⟩
theorem fL_X4_193 : FL RX4 193 3 0 0 := ⟨_, rfl, by decide, by decide, g_48, rfl⟩
theorem fL_X4_199 : FL RX4 199 3 1 0 := ⟨_, rfl, by decide, by decide, g_50, rfl⟩
theorem fL_X4_206 : FL RX4 206 3 2 0 := ⟨_, rfl, by decide, by decide, g_52, rfl⟩
theorem fL_X4_209 : FL RX4 209 3 3 0 := ⟨_, rfl, by decide, by decide, g_55, rfl⟩
theorem fL_X4_213 : FL RX4 213 3 4 0 := ⟨_, rfl, by decide, by decide, g_59, rfl⟩
theorem fL_X4_218 : FL RX4 218 8 7 2 := ⟨_, rfl, by decide, by decide, g_174, rfl⟩
theorem fL_X4_22 : FL RX4 22 4 11 2 := ⟨_, rfl, by decide, by decide, g_237, rfl⟩
theorem fL_X4_221 : FL RX4 221 8 8 2 := ⟨_, rfl, by decide, by decide, g_179, rfl⟩
theorem fL_X4_227 : FL RX4 227 5 0 0 := ⟨_, rfl, by decide, by decide, g_79, rfl⟩
theorem fL_X4_232 : FL RX4 232 5 2 0 := ⟨_, rfl, by decide, by decide, g_83, rfl⟩
theorem fL_X4_234 : FL RX4 234 5 3 0 := ⟨_, rfl, by decide, by decide, g_86, rfl⟩
theorem fL_X4_235 : FL RX4 235 5 1 0 := ⟨_, rfl, by decide, by decide, g_81, rfl⟩
theorem fL_X4_238 : FL RX4 238 5 4 0 := ⟨_, rfl, by decide, by decide, g_89, rfl⟩
theorem fL_X4_240 : FL RX4 240 8 9 2 := ⟨_, rfl, by decide, by decide, g_184, rfl⟩
theorem fL_X4_252 : FL RX4 252 6 5 0 := ⟨_, rfl, by decide, by decide, g_123, rfl⟩
theorem fL_X4_259 : FL RX4 259 6 6 0 := ⟨_, rfl, by decide, by decide, g_127, rfl⟩
theorem fL_X4_26 : FL RX4 26 4 12 2 := ⟨_, rfl, by decide, by decide, g_238, rfl⟩
theorem fL_X4_264 : FL RX4 264 6 0 0 := ⟨_, rfl, by decide, by decide, g_108, rfl⟩
theorem fL_X4_273 : FL RX4 273 6 1 0 := ⟨_, rfl, by decide, by decide, g_110, rfl⟩
theorem fL_X4_289 : FL RX4 289 8 10 2 := ⟨_, rfl, by decide, by decide, g_187, rfl⟩
theorem fL_X4_292 : FL RX4 292 8 11 2 := ⟨_, rfl, by decide, by decide, g_190, rfl⟩
theorem fL_X4_45 : FL RX4 45 8 1 0 := ⟨_, rfl, by decide, by decide, g_147, rfl⟩
theorem fL_X4_58 : FL RX4 58 8 2 0 := ⟨_, rfl, by decide, by decide, g_153, rfl⟩
theorem fL_X4_66 : FL RX4 66 8 3 0 := ⟨_, rfl, by decide, by decide, g_157, rfl⟩
theorem fL_X4_74 : FL RX4 74 8 4 0 := ⟨_, rfl, by decide, by decide, g_162, rfl⟩
theorem fL_X4_82 : FL RX4 82 8 5 0 := ⟨_, rfl, by decide, by decide, g_165, rfl⟩
theorem fL_X4_9 : FL RX4 9 4 2 2 := ⟨_, rfl, by decide, by decide, g_228, rfl⟩
theorem fL_X4_92 : FL RX4 92 4 6 0 := ⟨_, rfl, by decide, by decide, g_232, rfl⟩
theorem fL_X5_13 : FL RX5 13 5 1 0 := ⟨_, rfl, by decide, by decide, g_80, rfl⟩
theorem fL_X5_16 : FL RX5 16 5 3 0 := ⟨_, rfl, by decide, by decide, g_85, rfl⟩
theorem fL_X5_19 : FL RX5 19 5 2 0 := ⟨_, rfl, by decide, by decide, g_82, rfl⟩
theorem fL_X5_22 : FL RX5 22 3 2 0 := ⟨_, rfl, by decide, by decide, g_51, rfl⟩
theorem fL_X5_31 : FL RX5 31 3 3 0 := ⟨_, rfl, by decide, by decide, g_54, rfl⟩
theorem fL_X5_34 : FL RX5 34 5 4 0 := ⟨_, rfl, by decide, by decide, g_88, rfl⟩
theorem fL_X5_7 : FL RX5 7 5 0 0 := ⟨_, rfl, by decide, by decide, g_78, rfl⟩
theorem fL_X6_15 : FL RX6 15 6 1 0 := ⟨_, rfl, by decide, by decide, g_109, rfl⟩
theorem fL_X6_18 : FL RX6 18 6 2 0 := ⟨_, rfl, by decide, by decide, g_112, rfl⟩
theorem fL_X6_21 : FL RX6 21 6 3 0 := ⟨_, rfl, by decide, by decide, g_115, rfl⟩
theorem fL_X6_24 : FL RX6 24 6 4 0 := ⟨_, rfl, by decide, by decide, g_117, rfl⟩
theorem fL_X6_27 : FL RX6 27 6 5 0 := ⟨_, rfl, by decide, by decide, g_119, rfl⟩
theorem fL_X6_30 : FL RX6 30 6 6 0 := ⟨_, rfl, by decide, by decide, g_124, rfl⟩
theorem fL_X6_9 : FL RX6 9 6 0 0 := ⟨_, rfl, by decide, by decide, g_106, rfl⟩
theorem fL_X7_102 : FL RX7 102 6 5 0 := ⟨_, rfl, by decide, by decide, g_120, rfl⟩
theorem fL_X7_107 : FL RX7 107 6 6 0 := ⟨_, rfl, by decide, by decide, g_125, rfl⟩
theorem fL_X7_110 : FL RX7 110 8 6 2 := ⟨_, rfl, by decide, by decide, g_169, rfl⟩
theorem fL_X7_120 : FL RX7 120 3 4 0 := ⟨_, rfl, by decide, by decide, g_57, rfl⟩
theorem fL_X7_15 : FL RX7 15 7 1 2 := ⟨_, rfl, by decide, by decide, g_289, rfl⟩
theorem fL_X7_19 : FL RX7 19 7 2 2 := ⟨_, rfl, by decide, by decide, g_290, rfl⟩
theorem fL_X7_22 : FL RX7 22 7 4 2 := ⟨_, rfl, by decide, by decide, g_292, rfl⟩
theorem fL_X7_25 : FL RX7 25 7 5 2 := ⟨_, rfl, by decide, by decide, g_293, rfl⟩
theorem fL_X7_28 : FL RX7 28 7 6 2 := ⟨_, rfl, by decide, by decide, g_294, rfl⟩
theorem fL_X7_31 : FL RX7 31 7 7 2 := ⟨_, rfl, by decide, by decide, g_295, rfl⟩
theorem fL_X7_34 : FL RX7 34 7 8 2 := ⟨_, rfl, by decide, by decide, g_296, rfl⟩
theorem fL_X7_37 : FL RX7 37 7 9 0 := ⟨_, rfl, by decide, by decide, g_297, rfl⟩
theorem fL_X7_41 : FL RX7 41 7 10 0 := ⟨_, rfl, by decide, by decide, g_298, rfl⟩
theorem fL_X7_44 : FL RX7 44 7 11 0 := ⟨_, rfl, by decide, by decide, g_299, rfl⟩
theorem fL_X7_47 : FL RX7 47 7 12 0 := ⟨_, rfl, by decide, by decide, g_300, rfl⟩
theorem fL_X7_53 : FL RX7 53 7 13 0 := ⟨_, rfl, by decide, by decide, g_301, rfl⟩
theorem fL_X7_62 : FL RX7 62 8 1 0 := ⟨_, rfl, by decide, by decide, g_148, rfl⟩
theorem fL_X7_75 : FL RX7 75 8 2 0 := ⟨_, rfl, by decide, by decide, g_154, rfl⟩
theorem fL_X7_82 : FL RX7 82 7 3 0 := ⟨_, rfl, by decide, by decide, g_291, rfl⟩
theorem fL_X7_89 : FL RX7 89 8 9 2 := ⟨_, rfl, by decide, by decide, g_181, rfl⟩
theorem fL_X7_9 : FL RX7 9 7 0 2 := ⟨_, rfl, by decide, by decide, g_287, rfl⟩
theorem fL_X7_95 : FL RX7 95 8 3 0 := ⟨_, rfl, by decide, by decide, g_158, rfl⟩
theorem fL_X7_98 : FL RX7 98 8 8 2 := ⟨_, rfl, by decide, by decide, g_176, rfl⟩
theorem fL_X8_11 : FL RX8 11 8 6 2 := ⟨_, rfl, by decide, by decide, g_167, rfl⟩
theorem fL_X8_17 : FL RX8 17 8 7 2 := ⟨_, rfl, by decide, by decide, g_173, rfl⟩
theorem fL_X8_23 : FL RX8 23 8 8 2 := ⟨_, rfl, by decide, by decide, g_175, rfl⟩
theorem fL_X8_29 : FL RX8 29 8 9 2 := ⟨_, rfl, by decide, by decide, g_180, rfl⟩
theorem fL_X8_33 : FL RX8 33 8 10 2 := ⟨_, rfl, by decide, by decide, g_185, rfl⟩
theorem fL_X8_36 : FL RX8 36 8 11 2 := ⟨_, rfl, by decide, by decide, g_188, rfl⟩
theorem fL_X8_42 : FL RX8 42 8 0 0 := ⟨_, rfl, by decide, by decide, g_143, rfl⟩
theorem fL_X8_46 : FL RX8 46 8 1 0 := ⟨_, rfl, by decide, by decide, g_146, rfl⟩
theorem fL_X8_49 : FL RX8 49 8 2 0 := ⟨_, rfl, by decide, by decide, g_152, rfl⟩
theorem fL_X8_52 : FL RX8 52 8 3 0 := ⟨_, rfl, by decide, by decide, g_156, rfl⟩
theorem fL_X8_55 : FL RX8 55 8 4 0 := ⟨_, rfl, by decide, by decide, g_161, rfl⟩
theorem fL_X8_58 : FL RX8 58 8 5 0 := ⟨_, rfl, by decide, by decide, g_164, rfl⟩
theorem fL_X8_68 : FL RX8 68 6 2 0 := ⟨_, rfl, by decide, by decide, g_114, rfl⟩
theorem fL_X9_108 : FL RX9 108 8 9 2 := ⟨_, rfl, by decide, by decide, g_182, rfl⟩
theorem fL_X9_112 : FL RX9 112 8 8 2 := ⟨_, rfl, by decide, by decide, g_177, rfl⟩
theorem fL_X9_116 : FL RX9 116 8 6 2 := ⟨_, rfl, by decide, by decide, g_170, rfl⟩
theorem fL_X9_124 : FL RX9 124 1 0 2 := ⟨_, rfl, by decide, by decide, g_274, rfl⟩
theorem fL_X9_134 : FL RX9 134 3 4 0 := ⟨_, rfl, by decide, by decide, g_58, rfl⟩
theorem fL_X9_16 : FL RX9 16 9 2 2 := ⟨_, rfl, by decide, by decide, g_389, rfl⟩
theorem fL_X9_167 : FL RX9 167 6 0 0 := ⟨_, rfl, by decide, by decide, g_107, rfl⟩
theorem fL_X9_186 : FL RX9 186 6 5 0 := ⟨_, rfl, by decide, by decide, g_122, rfl⟩
theorem fL_X9_196 : FL RX9 196 8 1 0 := ⟨_, rfl, by decide, by decide, g_151, rfl⟩
theorem fL_X9_228 : FL RX9 228 7 0 2 := ⟨_, rfl, by decide, by decide, g_288, rfl⟩
theorem fL_X9_23 : FL RX9 23 9 3 2 := ⟨_, rfl, by decide, by decide, g_390, rfl⟩
theorem fL_X9_264 : FL RX9 264 8 5 0 := ⟨_, rfl, by decide, by decide, g_166, rfl⟩
theorem fL_X9_276 : FL RX9 276 0 1 0 := ⟨_, rfl, by decide, by decide, g_363, rfl⟩
theorem fL_X9_282 : FL RX9 282 0 0 0 := ⟨_, rfl, by decide, by decide, g_361, rfl⟩
theorem fL_X9_287 : FL RX9 287 0 4 2 := ⟨_, rfl, by decide, by decide, g_369, rfl⟩
theorem fL_X9_291 : FL RX9 291 2 0 0 := ⟨_, rfl, by decide, by decide, g_345, rfl⟩
theorem fL_X9_296 : FL RX9 296 2 1 0 := ⟨_, rfl, by decide, by decide, g_348, rfl⟩
theorem fL_X9_30 : FL RX9 30 9 4 2 := ⟨_, rfl, by decide, by decide, g_391, rfl⟩
theorem fL_X9_322 : FL RX9 322 2 2 2 := ⟨_, rfl, by decide, by decide, g_351, rfl⟩
theorem fL_X9_341 : FL RX9 341 6 1 0 := ⟨_, rfl, by decide, by decide, g_111, rfl⟩
theorem fL_X9_358 : FL RX9 358 8 3 0 := ⟨_, rfl, by decide, by decide, g_160, rfl⟩
theorem fL_X9_367 : FL RX9 367 8 0 0 := ⟨_, rfl, by decide, by decide, g_145, rfl⟩
theorem fL_X9_37 : FL RX9 37 9 5 2 := ⟨_, rfl, by decide, by decide, g_392, rfl⟩
theorem fL_X9_370 : FL RX9 370 8 2 0 := ⟨_, rfl, by decide, by decide, g_155, rfl⟩
theorem fL_X9_373 : FL RX9 373 0 2 0 := ⟨_, rfl, by decide, by decide, g_365, rfl⟩
theorem fL_X9_376 : FL RX9 376 0 3 0 := ⟨_, rfl, by decide, by decide, g_367, rfl⟩
theorem fL_X9_44 : FL RX9 44 9 6 2 := ⟨_, rfl, by decide, by decide, g_393, rfl⟩
theorem fL_X9_48 : FL RX9 48 9 1 0 := ⟨_, rfl, by decide, by decide, g_388, rfl⟩
theorem fL_X9_64 : FL RX9 64 4 0 0 := ⟨_, rfl, by decide, by decide, g_225, rfl⟩
theorem fL_X9_67 : FL RX9 67 9 7 0 := ⟨_, rfl, by decide, by decide, g_394, rfl⟩
theorem fL_X9_70 : FL RX9 70 4 1 0 := ⟨_, rfl, by decide, by decide, g_227, rfl⟩
theorem fL_X9_73 : FL RX9 73 9 8 0 := ⟨_, rfl, by decide, by decide, g_395, rfl⟩
theorem fL_X9_86 : FL RX9 86 8 4 0 := ⟨_, rfl, by decide, by decide, g_163, rfl⟩
theorem fL_X9_9 : FL RX9 9 9 0 2 := ⟨_, rfl, by decide, by decide, g_387, rfl⟩
theorem fL_X9_92 : FL RX9 92 9 9 0 := ⟨_, rfl, by decide, by decide, g_396, rfl⟩
theorem fN_X11_151 : FN RX11 151 10 0 0 := ⟨_, _, rfl, by decide, by decide, List.mem_of_getElem? (i := 0) rfl, rfl⟩
theorem fN_X11_164 : FN RX11 164 10 28 2 := ⟨_, _, rfl, by decide, by decide, List.mem_of_getElem? (i := 28) rfl, rfl⟩
theorem fN_X11_167 : FN RX11 167 10 6 0 := ⟨_, _, rfl, by decide, by decide, List.mem_of_getElem? (i := 6) rfl, rfl⟩
theorem fN_X11_170 : FN RX11 170 10 29 2 := ⟨_, _, rfl, by decide, by decide, List.mem_of_getElem? (i := 29) rfl, rfl⟩
theorem fN_X11_173 : FN RX11 173 10 30 2 := ⟨_, _, rfl, by decide, by decide, List.mem_of_getElem? (i := 30) rfl, rfl⟩
theorem fN_X11_190 : FN RX11 190 10 2 0 := ⟨_, _, rfl, by decide, by decide, List.mem_of_getElem? (i := 2) rfl, rfl⟩
theorem fN_X11_193 : FN RX11 193 10 4 0 := ⟨_, _, rfl, by decide, by decide, List.mem_of_getElem? (i := 4) rfl, rfl⟩
theorem fN_X11_219 : FN RX11 219 10 1 0 := ⟨_, _, rfl, by decide, by decide, List.mem_of_getElem? (i := 1) rfl, rfl⟩
theorem fN_X11_237 : FN RX11 237 10 7 2 := ⟨_, _, rfl, by decide, by decide, List.mem_of_getElem? (i := 7) rfl, rfl⟩
theorem fN_X11_239 : FN RX11 239 10 8 2 := ⟨_, _, rfl, by decide, by decide, List.mem_of_getElem? (i := 8) rfl, rfl⟩
theorem fN_X11_241 : FN RX11 241 10 9 2 := ⟨_, _, rfl, by decide, by decide, List.mem_of_getElem? (i := 9) rfl, rfl⟩
theorem fN_X11_244 : FN RX11 244 10 10 2 := ⟨_, _, rfl, by decide, by decide, List.mem_of_getElem? (i := 10) rfl, rfl⟩
theorem fN_X11_246 : FN RX11 246 10 11 2 := ⟨_, _, rfl, by decide, by decide, List.mem_of_getElem? (i := 11) rfl, rfl⟩
theorem fN_X11_258 : FN RX11 258 10 18 2 := ⟨_, _, rfl, by decide, by decide, List.mem_of_getElem? (i := 18) rfl, rfl⟩
theorem fN_X11_262 : FN RX11 262 10 12 2 := ⟨_, _, rfl, by decide, by decide, List.mem_of_getElem? (i := 12) rfl, rfl⟩
theorem fN_X11_264 : FN RX11 264 10 3 0 := ⟨_, _, rfl, by decide, by decide, List.mem_of_getElem? (i := 3) rfl, rfl⟩
theorem fN_X11_270 : FN RX11 270 10 13 2 := ⟨_, _, rfl, by decide, by decide, List.mem_of_getElem? (i := 13) rfl, rfl⟩
theorem fN_X11_273 : FN RX11 273 10 14 2 := ⟨_, _, rfl, by decide, by decide, List.mem_of_getElem? (i := 14) rfl, rfl⟩
theorem fN_X11_276 : FN RX11 276 10 15 2 := ⟨_, _, rfl, by decide, by decide, List.mem_of_getElem? (i := 15) rfl, rfl⟩
theorem fN_X11_279 : FN RX11 279 10 16 2 := ⟨_, _, rfl, by decide, by decide, List.mem_of_getElem? (i := 16) rfl, rfl⟩
theorem fN_X11_282 : FN RX11 282 10 17 2 := ⟨_, _, rfl, by decide, by decide, List.mem_of_getElem? (i := 17) rfl, rfl⟩
theorem fN_X11_302 : FN RX11 302 10 19 2 := ⟨_, _, rfl, by decide, by decide, List.mem_of_getElem? (i := 19) rfl, rfl⟩
theorem fN_X11_305 : FN RX11 305 10 20 2 := ⟨_, _, rfl, by decide, by decide, List.mem_of_getElem? (i := 20) rfl, rfl⟩
theorem fN_X11_308 : FN RX11 308 10 21 2 := ⟨_, _, rfl, by decide, by decide, List.mem_of_getElem? (i := 21) rfl, rfl⟩
theorem fN_X11_311 : FN RX11 311 10 22 2 := ⟨_, _, rfl, by decide, by decide, List.mem_of_getElem? (i := 22) rfl, rfl⟩
theorem fN_X11_314 : FN RX11 314 10 23 2 := ⟨_, _, rfl, by decide, by decide, List.mem_of_getElem? (i := 23) rfl, rfl⟩
theorem fN_X11_317 : FN RX11 317 10 24 2 := ⟨_, _, rfl, by decide, by decide, List.mem_of_getElem? (i := 24) rfl, rfl⟩
theorem fN_X11_320 : FN RX11 320 10 25 2 := ⟨_, _, rfl, by decide, by decide, List.mem_of_getElem? (i := 25) rfl, rfl⟩
theorem fN_X11_323 : FN RX11 323 10 5 0 := ⟨_, _, rfl, by decide, by decide, List.mem_of_getElem? (i := 5) rfl, rfl⟩
theorem fN_X11_326 : FN RX11 326 10 27 2 := ⟨_, _, rfl, by decide, by decide, List.mem_of_getElem? (i := 27) rfl, rfl⟩
theorem fN_X11_328 : FN RX11 328 10 26 2 := ⟨_, _, rfl, by decide, by decide, List.mem_of_getElem? (i := 26) rfl, rfl⟩
theorem nc_X0_15 : NC RX0 15 2 3 := ⟨_, _, tyX2, rfl, by decide, g_337, g_338, g_10, tyX2_ok, by decide +kernel⟩
theorem nc_X11_152 : NC RX11 152 10 31 := ⟨_, _, tyX10, rfl, by decide, g_1254, g_1255, g_17, tyX10_ok, by decide +kernel⟩
theorem nc_X4_15 : NC RX4 15 8 12 := ⟨_, _, tyX8, rfl, by decide, g_222, g_31, g_2, tyX8_ok, by decide +kernel⟩
theorem nc_X8_21 : NC RX8 21 5 5 := ⟨_, _, tyX5, rfl, by decide, g_38, g_73, g_4, tyX5_ok, by decide +kernel⟩
theorem nc_X8_27 : NC RX8 27 6 7 := ⟨_, _, tyX6, rfl, by decide, g_40, g_101, g_5, tyX6_ok, by decide +kernel⟩
theorem nc_X8_9 : NC RX8 9 3 5 := ⟨_, _, tyX3, rfl, by decide, g_36, g_42, g_3, tyX3_ok, by decide +kernel⟩
theorem nc_X9_13 : NC RX9 13 8 12 := ⟨_, _, tyX8, rfl, by decide, g_30, g_31, g_2, tyX8_ok, by decide +kernel⟩
theorem nc_X9_20 : NC RX9 20 4 13 := ⟨_, _, tyX4, rfl, by decide, g_216, g_217, g_6, tyX4_ok, by decide +kernel⟩
theorem nc_X9_27 : NC RX9 27 1 2 := ⟨_, _, tyX1, rfl, by decide, g_267, g_268, g_7, tyX1_ok, by decide +kernel⟩
theorem nc_X9_34 : NC RX9 34 7 14 := ⟨_, _, tyX7, rfl, by decide, g_281, g_282, g_8, tyX7_ok, by decide +kernel⟩
theorem nc_X9_41 : NC RX9 41 0 7 := ⟨_, _, tyX0, rfl, by decide, g_331, g_332, g_9, tyX0_ok, by decide +kernel⟩
theorem pfL_X0_18 : FPF RX0 18 0 4 2 := ⟨⟨fL_X0_18, _, (.object "RainWalk$Moment"), rfl, rfl, by decide +kernel, fun x => ⟨rfl, rfl⟩⟩, _, rfl, rfl⟩
theorem pfL_X0_22 : FPF RX0 22 0 5 2 := ⟨⟨fL_X0_22, _, (.array (.object "RainWalk$Moment")), rfl, rfl, by decide +kernel, fun x => ⟨rfl, rfl⟩⟩, _, rfl, rfl⟩
theorem pfL_X0_26 : FPF RX0 26 0 6 2 := ⟨⟨fL_X0_26, _, (.array (.object "RainWalk$Moment")), rfl, rfl, by decide +kernel, fun x => ⟨rfl, rfl⟩⟩, _, rfl, rfl⟩
theorem pfL_X0_29 : FP RX0 29 0 2 0 false := ⟨fL_X0_29, _, .int, rfl, rfl, by decide +kernel, fun x => ⟨rfl, rfl⟩⟩
theorem pfL_X0_32 : FP RX0 32 0 3 0 false := ⟨fL_X0_32, _, .int, rfl, rfl, by decide +kernel, fun x => ⟨rfl, rfl⟩⟩
theorem pfL_X0_38 : FP RX0 38 2 0 0 false := ⟨fL_X0_38, _, .int, rfl, rfl, by decide +kernel, fun x => ⟨rfl, rfl⟩⟩
theorem pfL_X0_41 : FP RX0 41 2 1 0 false := ⟨fL_X0_41, _, .int, rfl, rfl, by decide +kernel, fun x => ⟨rfl, rfl⟩⟩
theorem pfL_X0_48 : FP RX0 48 0 1 0 false := ⟨fL_X0_48, _, .int, rfl, rfl, by decide +kernel, fun x => ⟨rfl, rfl⟩⟩
theorem pfL_X0_9 : FP RX0 9 0 0 0 false := ⟨fL_X0_9, _, .int, rfl, rfl, by decide +kernel, fun x => ⟨rfl, rfl⟩⟩
theorem pfL_X10_15 : FPF RX10 15 10 8 2 := ⟨⟨fL_X10_15, _, (.array .int), rfl, rfl, by decide +kernel, fun x => ⟨rfl, rfl⟩⟩, _, rfl, rfl⟩
theorem pfL_X10_18 : FPF RX10 18 10 9 2 := ⟨⟨fL_X10_18, _, (.array .int), rfl, rfl, by decide +kernel, fun x => ⟨rfl, rfl⟩⟩, _, rfl, rfl⟩
theorem pfL_X10_21 : FPF RX10 21 10 10 2 := ⟨⟨fL_X10_21, _, (.array .int), rfl, rfl, by decide +kernel, fun x => ⟨rfl, rfl⟩⟩, _, rfl, rfl⟩
theorem pfL_X10_24 : FPF RX10 24 10 11 2 := ⟨⟨fL_X10_24, _, (.array .int), rfl, rfl, by decide +kernel, fun x => ⟨rfl, rfl⟩⟩, _, rfl, rfl⟩
theorem pfL_X10_27 : FPF RX10 27 10 12 2 := ⟨⟨fL_X10_27, _, (.array .int), rfl, rfl, by decide +kernel, fun x => ⟨rfl, rfl⟩⟩, _, rfl, rfl⟩
theorem pfL_X10_30 : FPF RX10 30 10 13 2 := ⟨⟨fL_X10_30, _, (.array .int), rfl, rfl, by decide +kernel, fun x => ⟨rfl, rfl⟩⟩, _, rfl, rfl⟩
theorem pfL_X10_33 : FPF RX10 33 10 14 2 := ⟨⟨fL_X10_33, _, (.array .int), rfl, rfl, by decide +kernel, fun x => ⟨rfl, rfl⟩⟩, _, rfl, rfl⟩
theorem pfL_X10_36 : FPF RX10 36 10 15 2 := ⟨⟨fL_X10_36, _, (.array .int), rfl, rfl, by decide +kernel, fun x => ⟨rfl, rfl⟩⟩, _, rfl, rfl⟩
theorem pfL_X10_39 : FPF RX10 39 10 16 2 := ⟨⟨fL_X10_39, _, (.array .int), rfl, rfl, by decide +kernel, fun x => ⟨rfl, rfl⟩⟩, _, rfl, rfl⟩
theorem pfL_X10_42 : FPF RX10 42 10 17 2 := ⟨⟨fL_X10_42, _, (.array .int), rfl, rfl, by decide +kernel, fun x => ⟨rfl, rfl⟩⟩, _, rfl, rfl⟩
theorem pfL_X10_45 : FPF RX10 45 10 18 2 := ⟨⟨fL_X10_45, _, (.array .boolean), rfl, rfl, by decide +kernel, fun x => ⟨rfl, rfl⟩⟩, _, rfl, rfl⟩
theorem pfL_X10_49 : FPF RX10 49 10 19 2 := ⟨⟨fL_X10_49, _, (.array .int), rfl, rfl, by decide +kernel, fun x => ⟨rfl, rfl⟩⟩, _, rfl, rfl⟩
theorem pfL_X10_52 : FPF RX10 52 10 20 2 := ⟨⟨fL_X10_52, _, (.array .int), rfl, rfl, by decide +kernel, fun x => ⟨rfl, rfl⟩⟩, _, rfl, rfl⟩
theorem pfL_X10_55 : FPF RX10 55 10 21 2 := ⟨⟨fL_X10_55, _, (.array .int), rfl, rfl, by decide +kernel, fun x => ⟨rfl, rfl⟩⟩, _, rfl, rfl⟩
theorem pfL_X10_58 : FPF RX10 58 10 22 2 := ⟨⟨fL_X10_58, _, (.array .int), rfl, rfl, by decide +kernel, fun x => ⟨rfl, rfl⟩⟩, _, rfl, rfl⟩
theorem pfL_X10_61 : FPF RX10 61 10 23 2 := ⟨⟨fL_X10_61, _, (.array .int), rfl, rfl, by decide +kernel, fun x => ⟨rfl, rfl⟩⟩, _, rfl, rfl⟩
theorem pfL_X10_64 : FPF RX10 64 10 24 2 := ⟨⟨fL_X10_64, _, (.array .int), rfl, rfl, by decide +kernel, fun x => ⟨rfl, rfl⟩⟩, _, rfl, rfl⟩
theorem pfL_X10_67 : FPF RX10 67 10 25 2 := ⟨⟨fL_X10_67, _, (.array .int), rfl, rfl, by decide +kernel, fun x => ⟨rfl, rfl⟩⟩, _, rfl, rfl⟩
theorem pfL_X10_70 : FPF RX10 70 10 26 2 := ⟨⟨fL_X10_70, _, (.array .int), rfl, rfl, by decide +kernel, fun x => ⟨rfl, rfl⟩⟩, _, rfl, rfl⟩
theorem pfL_X10_73 : FPF RX10 73 10 27 2 := ⟨⟨fL_X10_73, _, (.array .int), rfl, rfl, by decide +kernel, fun x => ⟨rfl, rfl⟩⟩, _, rfl, rfl⟩
theorem pfL_X10_76 : FPF RX10 76 10 28 2 := ⟨⟨fL_X10_76, _, (.array .long), rfl, rfl, by decide +kernel, fun x => ⟨rfl, rfl⟩⟩, _, rfl, rfl⟩
theorem pfL_X10_80 : FPF RX10 80 10 29 2 := ⟨⟨fL_X10_80, _, (.array .int), rfl, rfl, by decide +kernel, fun x => ⟨rfl, rfl⟩⟩, _, rfl, rfl⟩
theorem pfL_X10_83 : FPF RX10 83 10 30 2 := ⟨⟨fL_X10_83, _, (.array .int), rfl, rfl, by decide +kernel, fun x => ⟨rfl, rfl⟩⟩, _, rfl, rfl⟩
theorem pfL_X10_9 : FPF RX10 9 10 7 2 := ⟨⟨fL_X10_9, _, (.array .int), rfl, rfl, by decide +kernel, fun x => ⟨rfl, rfl⟩⟩, _, rfl, rfl⟩
theorem pfL_X11_100 : FP RX11 100 11 14 0 false := ⟨fL_X11_100, _, .int, rfl, rfl, by decide +kernel, fun x => ⟨rfl, rfl⟩⟩
theorem pfL_X11_13 : FPF RX11 13 11 5 2 := ⟨⟨fL_X11_13, _, (.array .byte), rfl, rfl, by decide +kernel, fun x => ⟨rfl, rfl⟩⟩, _, rfl, rfl⟩
theorem pfL_X11_147 : FP RX11 147 11 4 2 false := ⟨fL_X11_147, _, (.object "RainWalkModel$World"), rfl, rfl, by decide +kernel, fun x => ⟨rfl, rfl⟩⟩
theorem pfL_X11_17 : FPF RX11 17 11 16 2 := ⟨⟨fL_X11_17, _, (.array .long), rfl, rfl, by decide +kernel, fun x => ⟨rfl, rfl⟩⟩, _, rfl, rfl⟩
theorem pfL_X11_21 : FPF RX11 21 11 17 2 := ⟨⟨fL_X11_21, _, (.array .int), rfl, rfl, by decide +kernel, fun x => ⟨rfl, rfl⟩⟩, _, rfl, rfl⟩
theorem pfL_X11_25 : FPF RX11 25 11 18 2 := ⟨⟨fL_X11_25, _, (.array .int), rfl, rfl, by decide +kernel, fun x => ⟨rfl, rfl⟩⟩, _, rfl, rfl⟩
theorem pfL_X11_28 : FP RX11 28 11 19 0 false := ⟨fL_X11_28, _, .int, rfl, rfl, by decide +kernel, fun x => ⟨rfl, rfl⟩⟩
theorem pfL_X11_31 : FPF RX11 31 11 21 2 := ⟨⟨fL_X11_31, _, (.array .long), rfl, rfl, by decide +kernel, fun x => ⟨rfl, rfl⟩⟩, _, rfl, rfl⟩
theorem pfL_X11_331 : FP RX11 331 11 6 0 false := ⟨fL_X11_331, _, .int, rfl, rfl, by decide +kernel, fun x => ⟨rfl, rfl⟩⟩
theorem pfL_X11_338 : FP RX11 338 11 3 2 false := ⟨fL_X11_338, _, (.object "RainWalkModel$World"), rfl, rfl, by decide +kernel, fun x => ⟨rfl, rfl⟩⟩
theorem pfL_X11_34 : FPF RX11 34 11 22 2 := ⟨⟨fL_X11_34, _, (.array .long), rfl, rfl, by decide +kernel, fun x => ⟨rfl, rfl⟩⟩, _, rfl, rfl⟩
theorem pfL_X11_340 : FP RX11 340 11 24 0 false := ⟨fL_X11_340, _, .int, rfl, rfl, by decide +kernel, fun x => ⟨rfl, rfl⟩⟩
theorem pfL_X11_343 : FP RX11 343 11 25 0 false := ⟨fL_X11_343, _, .int, rfl, rfl, by decide +kernel, fun x => ⟨rfl, rfl⟩⟩
theorem pfL_X11_37 : FPF RX11 37 11 23 2 := ⟨⟨fL_X11_37, _, (.array .long), rfl, rfl, by decide +kernel, fun x => ⟨rfl, rfl⟩⟩, _, rfl, rfl⟩
theorem pfL_X11_40 : FP RX11 40 11 0 0 false := ⟨fL_X11_40, _, .int, rfl, rfl, by decide +kernel, fun x => ⟨rfl, rfl⟩⟩
theorem pfL_X11_43 : FP RX11 43 11 1 0 false := ⟨fL_X11_43, _, .int, rfl, rfl, by decide +kernel, fun x => ⟨rfl, rfl⟩⟩
theorem pfL_X11_475 : FP RX11 475 11 20 0 false := ⟨fL_X11_475, _, .int, rfl, rfl, by decide +kernel, fun x => ⟨rfl, rfl⟩⟩
theorem pfL_X11_53 : FP RX11 53 11 7 0 false := ⟨fL_X11_53, _, .int, rfl, rfl, by decide +kernel, fun x => ⟨rfl, rfl⟩⟩
theorem pfL_X11_68 : FP RX11 68 11 9 0 false := ⟨fL_X11_68, _, .int, rfl, rfl, by decide +kernel, fun x => ⟨rfl, rfl⟩⟩
theorem pfL_X11_71 : FP RX11 71 11 8 0 false := ⟨fL_X11_71, _, .int, rfl, rfl, by decide +kernel, fun x => ⟨rfl, rfl⟩⟩
theorem pfL_X11_77 : FP RX11 77 11 10 0 false := ⟨fL_X11_77, _, .int, rfl, rfl, by decide +kernel, fun x => ⟨rfl, rfl⟩⟩
theorem pfL_X11_80 : FP RX11 80 11 11 0 false := ⟨fL_X11_80, _, .int, rfl, rfl, by decide +kernel, fun x => ⟨rfl, rfl⟩⟩
theorem pfL_X11_87 : FP RX11 87 11 15 1 false := ⟨fL_X11_87, _, .long, rfl, rfl, by decide +kernel, fun x => ⟨rfl, rfl⟩⟩
theorem pfL_X11_9 : FP RX11 9 11 2 0 false := ⟨fL_X11_9, _, .int, rfl, rfl, by decide +kernel, fun x => ⟨rfl, rfl⟩⟩
theorem pfL_X11_94 : FP RX11 94 11 12 0 false := ⟨fL_X11_94, _, .int, rfl, rfl, by decide +kernel, fun x => ⟨rfl, rfl⟩⟩
theorem pfL_X11_97 : FP RX11 97 11 13 0 false := ⟨fL_X11_97, _, .int, rfl, rfl, by decide +kernel, fun x => ⟨rfl, rfl⟩⟩
theorem pfL_X1_15 : FPF RX1 15 1 1 2 := ⟨⟨fL_X1_15, _, (.array .long), rfl, rfl, by decide +kernel, fun x => ⟨rfl, rfl⟩⟩, _, rfl, rfl⟩
theorem pfL_X1_9 : FPF RX1 9 1 0 2 := ⟨⟨fL_X1_9, _, (.array .long), rfl, rfl, by decide +kernel, fun x => ⟨rfl, rfl⟩⟩, _, rfl, rfl⟩
theorem pfL_X2_15 : FP RX2 15 2 0 0 false := ⟨fL_X2_15, _, .int, rfl, rfl, by decide +kernel, fun x => ⟨rfl, rfl⟩⟩
theorem pfL_X2_19 : FP RX2 19 2 1 0 false := ⟨fL_X2_19, _, .int, rfl, rfl, by decide +kernel, fun x => ⟨rfl, rfl⟩⟩
theorem pfL_X2_9 : FPF RX2 9 2 2 2 := ⟨⟨fL_X2_9, _, (.array .long), rfl, rfl, by decide +kernel, fun x => ⟨rfl, rfl⟩⟩, _, rfl, rfl⟩
theorem pfL_X4_104 : FP RX4 104 4 3 0 false := ⟨fL_X4_104, _, .int, rfl, rfl, by decide +kernel, fun x => ⟨rfl, rfl⟩⟩
theorem pfL_X4_107 : FP RX4 107 4 4 0 false := ⟨fL_X4_107, _, .int, rfl, rfl, by decide +kernel, fun x => ⟨rfl, rfl⟩⟩
theorem pfL_X4_110 : FP RX4 110 4 0 0 false := ⟨fL_X4_110, _, .int, rfl, rfl, by decide +kernel, fun x => ⟨rfl, rfl⟩⟩
theorem pfL_X4_113 : FP RX4 113 4 1 0 false := ⟨fL_X4_113, _, .int, rfl, rfl, by decide +kernel, fun x => ⟨rfl, rfl⟩⟩
theorem pfL_X4_116 : FP RX4 116 4 10 0 false := ⟨fL_X4_116, _, .int, rfl, rfl, by decide +kernel, fun x => ⟨rfl, rfl⟩⟩
theorem pfL_X4_125 : FP RX4 125 4 7 0 false := ⟨fL_X4_125, _, .int, rfl, rfl, by decide +kernel, fun x => ⟨rfl, rfl⟩⟩
theorem pfL_X4_132 : FP RX4 132 4 8 1 false := ⟨fL_X4_132, _, .long, rfl, rfl, by decide +kernel, fun x => ⟨rfl, rfl⟩⟩
theorem pfL_X4_147 : FP RX4 147 4 9 0 false := ⟨fL_X4_147, _, .int, rfl, rfl, by decide +kernel, fun x => ⟨rfl, rfl⟩⟩
theorem pfL_X4_18 : FP RX4 18 4 5 2 false := ⟨fL_X4_18, _, (.object "RainWalk$World"), rfl, rfl, by decide +kernel, fun x => ⟨rfl, rfl⟩⟩
theorem pfL_X4_185 : FP RX4 185 8 0 0 false := ⟨fL_X4_185, _, .int, rfl, rfl, by decide +kernel, fun x => ⟨rfl, rfl⟩⟩
theorem pfL_X4_193 : FP RX4 193 3 0 0 false := ⟨fL_X4_193, _, .int, rfl, rfl, by decide +kernel, fun x => ⟨rfl, rfl⟩⟩
theorem pfL_X4_199 : FP RX4 199 3 1 0 false := ⟨fL_X4_199, _, .int, rfl, rfl, by decide +kernel, fun x => ⟨rfl, rfl⟩⟩
theorem pfL_X4_206 : FP RX4 206 3 2 0 false := ⟨fL_X4_206, _, .int, rfl, rfl, by decide +kernel, fun x => ⟨rfl, rfl⟩⟩
theorem pfL_X4_209 : FP RX4 209 3 3 0 false := ⟨fL_X4_209, _, .int, rfl, rfl, by decide +kernel, fun x => ⟨rfl, rfl⟩⟩
theorem pfL_X4_213 : FP RX4 213 3 4 0 false := ⟨fL_X4_213, _, .int, rfl, rfl, by decide +kernel, fun x => ⟨rfl, rfl⟩⟩
theorem pfL_X4_22 : FPF RX4 22 4 11 2 := ⟨⟨fL_X4_22, _, (.array .long), rfl, rfl, by decide +kernel, fun x => ⟨rfl, rfl⟩⟩, _, rfl, rfl⟩
theorem pfL_X4_227 : FP RX4 227 5 0 0 false := ⟨fL_X4_227, _, .int, rfl, rfl, by decide +kernel, fun x => ⟨rfl, rfl⟩⟩
theorem pfL_X4_232 : FP RX4 232 5 2 0 false := ⟨fL_X4_232, _, .int, rfl, rfl, by decide +kernel, fun x => ⟨rfl, rfl⟩⟩
theorem pfL_X4_234 : FP RX4 234 5 3 0 false := ⟨fL_X4_234, _, .int, rfl, rfl, by decide +kernel, fun x => ⟨rfl, rfl⟩⟩
theorem pfL_X4_235 : FP RX4 235 5 1 0 false := ⟨fL_X4_235, _, .int, rfl, rfl, by decide +kernel, fun x => ⟨rfl, rfl⟩⟩
theorem pfL_X4_238 : FP RX4 238 5 4 0 false := ⟨fL_X4_238, _, .int, rfl, rfl, by decide +kernel, fun x => ⟨rfl, rfl⟩⟩
theorem pfL_X4_252 : FP RX4 252 6 5 0 false := ⟨fL_X4_252, _, .int, rfl, rfl, by decide +kernel, fun x => ⟨rfl, rfl⟩⟩
theorem pfL_X4_259 : FP RX4 259 6 6 0 false := ⟨fL_X4_259, _, .int, rfl, rfl, by decide +kernel, fun x => ⟨rfl, rfl⟩⟩
theorem pfL_X4_26 : FPF RX4 26 4 12 2 := ⟨⟨fL_X4_26, _, (.array .int), rfl, rfl, by decide +kernel, fun x => ⟨rfl, rfl⟩⟩, _, rfl, rfl⟩
theorem pfL_X4_264 : FP RX4 264 6 0 0 false := ⟨fL_X4_264, _, .int, rfl, rfl, by decide +kernel, fun x => ⟨rfl, rfl⟩⟩
theorem pfL_X4_273 : FP RX4 273 6 1 0 false := ⟨fL_X4_273, _, .int, rfl, rfl, by decide +kernel, fun x => ⟨rfl, rfl⟩⟩
theorem pfL_X4_45 : FP RX4 45 8 1 0 false := ⟨fL_X4_45, _, .int, rfl, rfl, by decide +kernel, fun x => ⟨rfl, rfl⟩⟩
theorem pfL_X4_58 : FP RX4 58 8 2 0 false := ⟨fL_X4_58, _, .int, rfl, rfl, by decide +kernel, fun x => ⟨rfl, rfl⟩⟩
theorem pfL_X4_66 : FP RX4 66 8 3 0 false := ⟨fL_X4_66, _, .int, rfl, rfl, by decide +kernel, fun x => ⟨rfl, rfl⟩⟩
theorem pfL_X4_74 : FP RX4 74 8 4 0 false := ⟨fL_X4_74, _, .int, rfl, rfl, by decide +kernel, fun x => ⟨rfl, rfl⟩⟩
theorem pfL_X4_82 : FP RX4 82 8 5 0 false := ⟨fL_X4_82, _, .int, rfl, rfl, by decide +kernel, fun x => ⟨rfl, rfl⟩⟩
theorem pfL_X4_9 : FP RX4 9 4 2 2 false := ⟨fL_X4_9, _, (.array .byte), rfl, rfl, by decide +kernel, fun x => ⟨rfl, rfl⟩⟩
theorem pfL_X4_92 : FP RX4 92 4 6 0 false := ⟨fL_X4_92, _, .int, rfl, rfl, by decide +kernel, fun x => ⟨rfl, rfl⟩⟩
theorem pfL_X6_18 : FP RX6 18 6 2 0 false := ⟨fL_X6_18, _, .int, rfl, rfl, by decide +kernel, fun x => ⟨rfl, rfl⟩⟩
theorem pfL_X6_21 : FP RX6 21 6 3 0 false := ⟨fL_X6_21, _, .int, rfl, rfl, by decide +kernel, fun x => ⟨rfl, rfl⟩⟩
theorem pfL_X6_24 : FP RX6 24 6 4 0 false := ⟨fL_X6_24, _, .int, rfl, rfl, by decide +kernel, fun x => ⟨rfl, rfl⟩⟩
theorem pfL_X7_15 : FP RX7 15 7 1 2 false := ⟨fL_X7_15, _, (.array .long), rfl, rfl, by decide +kernel, fun x => ⟨rfl, rfl⟩⟩
theorem pfL_X7_19 : FP RX7 19 7 2 2 false := ⟨fL_X7_19, _, (.array .int), rfl, rfl, by decide +kernel, fun x => ⟨rfl, rfl⟩⟩
theorem pfL_X7_22 : FP RX7 22 7 4 2 false := ⟨fL_X7_22, _, (.array .int), rfl, rfl, by decide +kernel, fun x => ⟨rfl, rfl⟩⟩
theorem pfL_X7_25 : FP RX7 25 7 5 2 false := ⟨fL_X7_25, _, (.array .int), rfl, rfl, by decide +kernel, fun x => ⟨rfl, rfl⟩⟩
theorem pfL_X7_28 : FP RX7 28 7 6 2 false := ⟨fL_X7_28, _, (.array .int), rfl, rfl, by decide +kernel, fun x => ⟨rfl, rfl⟩⟩
theorem pfL_X7_31 : FP RX7 31 7 7 2 false := ⟨fL_X7_31, _, (.array .long), rfl, rfl, by decide +kernel, fun x => ⟨rfl, rfl⟩⟩
theorem pfL_X7_34 : FP RX7 34 7 8 2 false := ⟨fL_X7_34, _, (.array .int), rfl, rfl, by decide +kernel, fun x => ⟨rfl, rfl⟩⟩
theorem pfL_X7_37 : FP RX7 37 7 9 0 false := ⟨fL_X7_37, _, .int, rfl, rfl, by decide +kernel, fun x => ⟨rfl, rfl⟩⟩
theorem pfL_X7_41 : FP RX7 41 7 10 0 false := ⟨fL_X7_41, _, .int, rfl, rfl, by decide +kernel, fun x => ⟨rfl, rfl⟩⟩
theorem pfL_X7_44 : FP RX7 44 7 11 0 false := ⟨fL_X7_44, _, .int, rfl, rfl, by decide +kernel, fun x => ⟨rfl, rfl⟩⟩
theorem pfL_X7_47 : FP RX7 47 7 12 0 false := ⟨fL_X7_47, _, .int, rfl, rfl, by decide +kernel, fun x => ⟨rfl, rfl⟩⟩
theorem pfL_X7_53 : FP RX7 53 7 13 0 false := ⟨fL_X7_53, _, .int, rfl, rfl, by decide +kernel, fun x => ⟨rfl, rfl⟩⟩
theorem pfL_X7_82 : FP RX7 82 7 3 0 false := ⟨fL_X7_82, _, .int, rfl, rfl, by decide +kernel, fun x => ⟨rfl, rfl⟩⟩
theorem pfL_X7_9 : FP RX7 9 7 0 2 false := ⟨fL_X7_9, _, (.array .int), rfl, rfl, by decide +kernel, fun x => ⟨rfl, rfl⟩⟩
theorem pfL_X8_11 : FPF RX8 11 8 6 2 := ⟨⟨fL_X8_11, _, (.array (.object "RainWalk$Rain")), rfl, rfl, by decide +kernel, fun x => ⟨rfl, rfl⟩⟩, _, rfl, rfl⟩
theorem pfL_X8_17 : FPF RX8 17 8 7 2 := ⟨⟨fL_X8_17, _, (.array .int), rfl, rfl, by decide +kernel, fun x => ⟨rfl, rfl⟩⟩, _, rfl, rfl⟩
theorem pfL_X8_23 : FPF RX8 23 8 8 2 := ⟨⟨fL_X8_23, _, (.array (.object "RainWalk$Road")), rfl, rfl, by decide +kernel, fun x => ⟨rfl, rfl⟩⟩, _, rfl, rfl⟩
theorem pfL_X8_29 : FPF RX8 29 8 9 2 := ⟨⟨fL_X8_29, _, (.array (.object "RainWalk$Walker")), rfl, rfl, by decide +kernel, fun x => ⟨rfl, rfl⟩⟩, _, rfl, rfl⟩
theorem pfL_X8_33 : FPF RX8 33 8 10 2 := ⟨⟨fL_X8_33, _, (.array .int), rfl, rfl, by decide +kernel, fun x => ⟨rfl, rfl⟩⟩, _, rfl, rfl⟩
theorem pfL_X8_36 : FPF RX8 36 8 11 2 := ⟨⟨fL_X8_36, _, (.array .int), rfl, rfl, by decide +kernel, fun x => ⟨rfl, rfl⟩⟩, _, rfl, rfl⟩
theorem pfL_X8_42 : FP RX8 42 8 0 0 false := ⟨fL_X8_42, _, .int, rfl, rfl, by decide +kernel, fun x => ⟨rfl, rfl⟩⟩
theorem pfL_X8_46 : FP RX8 46 8 1 0 false := ⟨fL_X8_46, _, .int, rfl, rfl, by decide +kernel, fun x => ⟨rfl, rfl⟩⟩
theorem pfL_X8_49 : FP RX8 49 8 2 0 false := ⟨fL_X8_49, _, .int, rfl, rfl, by decide +kernel, fun x => ⟨rfl, rfl⟩⟩
theorem pfL_X8_52 : FP RX8 52 8 3 0 false := ⟨fL_X8_52, _, .int, rfl, rfl, by decide +kernel, fun x => ⟨rfl, rfl⟩⟩
theorem pfL_X8_55 : FP RX8 55 8 4 0 false := ⟨fL_X8_55, _, .int, rfl, rfl, by decide +kernel, fun x => ⟨rfl, rfl⟩⟩
theorem pfL_X8_58 : FP RX8 58 8 5 0 false := ⟨fL_X8_58, _, .int, rfl, rfl, by decide +kernel, fun x => ⟨rfl, rfl⟩⟩
theorem pfL_X9_16 : FP RX9 16 9 2 2 false := ⟨fL_X9_16, _, (.object "RainWalk$World"), rfl, rfl, by decide +kernel, fun x => ⟨rfl, rfl⟩⟩
theorem pfL_X9_23 : FPF RX9 23 9 3 2 := ⟨⟨fL_X9_23, _, (.object "RainWalk$Reader"), rfl, rfl, by decide +kernel, fun x => ⟨rfl, rfl⟩⟩, _, rfl, rfl⟩
theorem pfL_X9_291 : FP RX9 291 2 0 0 false := ⟨fL_X9_291, _, .int, rfl, rfl, by decide +kernel, fun x => ⟨rfl, rfl⟩⟩
theorem pfL_X9_296 : FP RX9 296 2 1 0 false := ⟨fL_X9_296, _, .int, rfl, rfl, by decide +kernel, fun x => ⟨rfl, rfl⟩⟩
theorem pfL_X9_30 : FPF RX9 30 9 4 2 := ⟨⟨fL_X9_30, _, (.object "RainWalk$Leg"), rfl, rfl, by decide +kernel, fun x => ⟨rfl, rfl⟩⟩, _, rfl, rfl⟩
theorem pfL_X9_37 : FPF RX9 37 9 5 2 := ⟨⟨fL_X9_37, _, (.object "RainWalk$Ways"), rfl, rfl, by decide +kernel, fun x => ⟨rfl, rfl⟩⟩, _, rfl, rfl⟩
theorem pfL_X9_44 : FPF RX9 44 9 6 2 := ⟨⟨fL_X9_44, _, (.object "RainWalk$Day"), rfl, rfl, by decide +kernel, fun x => ⟨rfl, rfl⟩⟩, _, rfl, rfl⟩
theorem pfL_X9_48 : FP RX9 48 9 1 0 false := ⟨fL_X9_48, _, .int, rfl, rfl, by decide +kernel, fun x => ⟨rfl, rfl⟩⟩
theorem pfL_X9_67 : FP RX9 67 9 7 0 false := ⟨fL_X9_67, _, .int, rfl, rfl, by decide +kernel, fun x => ⟨rfl, rfl⟩⟩
theorem pfL_X9_73 : FP RX9 73 9 8 0 false := ⟨fL_X9_73, _, .int, rfl, rfl, by decide +kernel, fun x => ⟨rfl, rfl⟩⟩
theorem pfL_X9_9 : FPF RX9 9 9 0 2 := ⟨⟨fL_X9_9, _, (.array .byte), rfl, rfl, by decide +kernel, fun x => ⟨rfl, rfl⟩⟩, _, rfl, rfl⟩
theorem pfL_X9_92 : FP RX9 92 9 9 0 false := ⟨fL_X9_92, _, .int, rfl, rfl, by decide +kernel, fun x => ⟨rfl, rfl⟩⟩
theorem pfN_X11_151 : FPN RX11 151 10 0 0 := ⟨fN_X11_151, _, .int, rfl, rfl, by decide +kernel, fun x => ⟨rfl, rfl⟩⟩
theorem pfN_X11_167 : FPN RX11 167 10 6 0 := ⟨fN_X11_167, _, .int, rfl, rfl, by decide +kernel, fun x => ⟨rfl, rfl⟩⟩
theorem pfN_X11_190 : FPN RX11 190 10 2 0 := ⟨fN_X11_190, _, .int, rfl, rfl, by decide +kernel, fun x => ⟨rfl, rfl⟩⟩
theorem pfN_X11_193 : FPN RX11 193 10 4 0 := ⟨fN_X11_193, _, .int, rfl, rfl, by decide +kernel, fun x => ⟨rfl, rfl⟩⟩
theorem pfN_X11_219 : FPN RX11 219 10 1 0 := ⟨fN_X11_219, _, .int, rfl, rfl, by decide +kernel, fun x => ⟨rfl, rfl⟩⟩
theorem pfN_X11_264 : FPN RX11 264 10 3 0 := ⟨fN_X11_264, _, .int, rfl, rfl, by decide +kernel, fun x => ⟨rfl, rfl⟩⟩
theorem pfN_X11_323 : FPN RX11 323 10 5 0 := ⟨fN_X11_323, _, .int, rfl, rfl, by decide +kernel, fun x => ⟨rfl, rfl⟩⟩
theorem yI_X0_init : YI yX0_init cX0_init 2 0 := ⟨g_334, g_9, g_335, rfl, by decide, by decide, by decide +kernel⟩
theorem yI_X10_init : YI yX10_init cX10_init 1 0 := ⟨g_1257, g_17, g_1258, rfl, by decide, by decide, by decide +kernel⟩
theorem yI_X1_init : YI yX1_init cX1_init 1 0 := ⟨g_270, g_7, g_271, rfl, by decide, by decide, by decide +kernel⟩
theorem yI_X2_init : YI yX2_init cX2_init 1 0 := ⟨g_340, g_10, g_341, rfl, by decide, by decide, by decide +kernel⟩
theorem yI_X3_init : YI yX3_init cX3_init 1 0 := ⟨g_44, g_3, g_45, rfl, by decide, by decide, by decide +kernel⟩
theorem yI_X4_init : YI yX4_init cX4_init 1 0 := ⟨g_219, g_6, g_220, rfl, by decide, by decide, by decide +kernel⟩
theorem yI_X5_init : YI yX5_init cX5_init 1 0 := ⟨g_75, g_4, g_76, rfl, by decide, by decide, by decide +kernel⟩
theorem yI_X6_init : YI yX6_init cX6_init 1 0 := ⟨g_103, g_5, g_104, rfl, by decide, by decide, by decide +kernel⟩
theorem yI_X7_init : YI yX7_init cX7_init 1 0 := ⟨g_284, g_8, g_285, rfl, by decide, by decide, by decide +kernel⟩
theorem yI_X8_init : YI yX8_init cX8_init 2 0 := ⟨g_33, g_2, g_34, rfl, by decide, by decide, by decide +kernel⟩
theorem yS_X11_in : YS yX11_in cX11_in 3 (some .boolean) 3 := ⟨g_1435, g_11, g_1436, by decide, by decide, by decide +kernel⟩
theorem yS_X11_isDigit : YS yX11_isDigit cX11_isDigit 1 (some .boolean) 1 := ⟨g_1393, g_11, g_1394, by decide, by decide, by decide +kernel⟩
theorem yS_X11_isLetter : YS yX11_isLetter cX11_isLetter 1 (some .boolean) 1 := ⟨g_1389, g_11, g_1390, by decide, by decide, by decide +kernel⟩
theorem yS_X11_less : YS yX11_less cX11_less 2 (some .int) 2 := ⟨g_1583, g_11, g_1584, by decide, by decide, by decide +kernel⟩
theorem yS_X11_spotOf : YS yX11_spotOf cX11_spotOf 2 (some .int) 2 := ⟨g_1688, g_11, g_1689, by decide, by decide, by decide +kernel⟩
theorem yS_X11_wordOf : YS yX11_wordOf cX11_wordOf 4 (some .long) 1 := ⟨g_1409, g_11, g_1410, by decide, by decide, by decide +kernel⟩
theorem yS_X1_legsOf : YS yX1_legsOf cX1_legsOf 1 (some .int) 1 := ⟨g_938, g_7, g_939, by decide, by decide, by decide +kernel⟩
theorem yS_X9_coatParts : YS yX9_coatParts cX9_coatParts 1 (some .long) 1 := ⟨g_1027, g_1, g_1028, by decide, by decide, by decide +kernel⟩
theorem yS_X9_commonDivisor : YS yX9_commonDivisor cX9_commonDivisor 11 (some .long) 2 := ⟨g_726, g_1, g_727, by decide, by decide, by decide +kernel⟩
theorem yS_X9_fraction : YS yX9_fraction cX9_fraction 7 (some .long) 3 := ⟨g_723, g_1, g_724, by decide, by decide, by decide +kernel⟩
theorem yS_X9_isFace : YS yX9_isFace cX9_isFace 1 (some .boolean) 1 := ⟨g_654, g_1, g_655, by decide, by decide, by decide +kernel⟩
theorem yS_X9_isTill : YS yX9_isTill cX9_isTill 1 (some .boolean) 1 := ⟨g_830, g_1, g_831, by decide, by decide, by decide +kernel⟩
theorem yS_X9_isWay : YS yX9_isWay cX9_isWay 1 (some .boolean) 1 := ⟨g_673, g_1, g_674, by decide, by decide, by decide +kernel⟩
theorem yV_X0_begin : YV yX0_begin cX0_begin 5 none 0 3 := ⟨⟨_, rfl, rfl⟩, by decide, g_968, g_969, g_9, g_970, by decide, by decide, by decide +kernel⟩
theorem yV_X0_draw : YV yX0_draw cX0_draw 5 none 0 2 := ⟨⟨_, rfl, rfl⟩, by decide, g_973, g_974, g_9, g_975, by decide, by decide, by decide +kernel⟩
theorem yV_X0_end : YV yX0_end cX0_end 1 none 0 0 := ⟨⟨_, rfl, rfl⟩, by decide, g_634, g_635, g_9, g_636, by decide, by decide, by decide +kernel⟩
theorem yV_X0_isOn : YV yX0_isOn cX0_isOn 1 (some .boolean) 0 0 := ⟨⟨_, rfl, rfl⟩, by decide, g_982, g_983, g_9, g_984, by decide, by decide, by decide +kernel⟩
theorem yV_X0_keepForUndo : YV yX0_keepForUndo cX0_keepForUndo 3 none 0 0 := ⟨⟨_, rfl, rfl⟩, by decide, g_987, g_988, g_9, g_989, by decide, by decide, by decide +kernel⟩
theorem yV_X0_rainsIn : YV yX0_rainsIn cX0_rainsIn 2 (some .boolean) 0 1 := ⟨⟨_, rfl, rfl⟩, by decide, g_996, g_997, g_9, g_998, by decide, by decide, by decide +kernel⟩
theorem yV_X0_returnTo : YV yX0_returnTo cX0_returnTo 2 (some .boolean) 0 1 := ⟨⟨_, rfl, rfl⟩, by decide, g_1057, g_1058, g_9, g_1059, by decide, by decide, by decide +kernel⟩
theorem yV_X0_setMark : YV yX0_setMark cX0_setMark 1 (some .int) 0 0 := ⟨⟨_, rfl, rfl⟩, by decide, g_1049, g_1050, g_9, g_1051, by decide, by decide, by decide +kernel⟩
theorem yV_X0_takeBack : YV yX0_takeBack cX0_takeBack 1 (some .boolean) 0 0 := ⟨⟨_, rfl, rfl⟩, by decide, g_1041, g_1042, g_9, g_1043, by decide, by decide, by decide +kernel⟩
theorem yV_X10_across : YV yX10_across cX10_across 5 (some .int) 10 3 := ⟨⟨_, rfl, rfl⟩, by decide, g_1571, g_1572, g_17, g_1573, by decide, by decide, by decide +kernel⟩
theorem yV_X10_air : YV yX10_air cX10_air 5 (some .int) 10 3 := ⟨⟨_, rfl, rfl⟩, by decide, g_1563, g_1564, g_17, g_1565, by decide, by decide, by decide +kernel⟩
theorem yV_X10_begins : YV yX10_begins cX10_begins 3 (some .int) 10 2 := ⟨⟨_, rfl, rfl⟩, by decide, g_1696, g_1697, g_17, g_1698, by decide, by decide, by decide +kernel⟩
theorem yV_X10_ends : YV yX10_ends cX10_ends 3 (some .int) 10 2 := ⟨⟨_, rfl, rfl⟩, by decide, g_1700, g_1701, g_17, g_1702, by decide, by decide, by decide +kernel⟩
theorem yV_X10_facing : YV yX10_facing cX10_facing 3 (some .int) 10 2 := ⟨⟨_, rfl, rfl⟩, by decide, g_1567, g_1568, g_17, g_1569, by decide, by decide, by decide +kernel⟩
theorem yV_X10_find : YV yX10_find cX10_find 4 (some .int) 10 1 := ⟨⟨_, rfl, rfl⟩, by decide, g_1478, g_1479, g_17, g_1480, by decide, by decide, by decide +kernel⟩
theorem yV_X10_minutes : YV yX10_minutes cX10_minutes 3 (some .int) 10 2 := ⟨⟨_, rfl, rfl⟩, by decide, g_1608, g_1609, g_17, g_1610, by decide, by decide, by decide +kernel⟩
theorem yV_X10_shield : YV yX10_shield cX10_shield 2 (some .int) 10 1 := ⟨⟨_, rfl, rfl⟩, by decide, g_1579, g_1580, g_17, g_1581, by decide, by decide, by decide +kernel⟩
theorem yV_X11_begins : YV yX11_begins cX11_begins 3 none 11 2 := ⟨⟨_, rfl, rfl⟩, by decide, g_1444, gp_55, g_11, g_1445, by decide, by decide, by decide +kernel⟩
theorem yV_X11_bestOf : YV yX11_bestOf cX11_bestOf 7 (some .int) 11 4 := ⟨⟨_, rfl, rfl⟩, by decide, g_1629, gp_79, g_11, g_1630, by decide, by decide, by decide +kernel⟩
theorem yV_X11_byteAt : YV yX11_byteAt cX11_byteAt 2 (some .int) 11 1 := ⟨⟨_, rfl, rfl⟩, by decide, g_1386, gp_45, g_11, g_1387, by decide, by decide, by decide +kernel⟩
theorem yV_X11_canWait : YV yX11_canWait cX11_canWait 2 (some .boolean) 11 1 := ⟨⟨_, rfl, rfl⟩, by decide, g_1717, gp_90, g_11, g_1718, by decide, by decide, by decide +kernel⟩
theorem yV_X11_denied : YV yX11_denied cX11_denied 2 (some .boolean) 11 1 := ⟨⟨_, rfl, rfl⟩, by decide, g_1797, gp_99, g_11, g_1798, by decide, by decide, by decide +kernel⟩
theorem yV_X11_drips : YV yX11_drips cX11_drips 3 (some .long) 11 2 := ⟨⟨_, rfl, rfl⟩, by decide, g_1725, gp_92, g_11, g_1726, by decide, by decide, by decide +kernel⟩
theorem yV_X11_eatsSign : YV yX11_eatsSign cX11_eatsSign 3 (some .boolean) 11 1 := ⟨⟨_, rfl, rfl⟩, by decide, g_1516, gp_66, g_11, g_1517, by decide, by decide, by decide +kernel⟩
theorem yV_X11_eatsWord : YV yX11_eatsWord cX11_eatsWord 3 (some .boolean) 11 1 := ⟨⟨_, rfl, rfl⟩, by decide, g_1483, gp_60, g_11, g_1484, by decide, by decide, by decide +kernel⟩
theorem yV_X11_fitOf : YV yX11_fitOf cX11_fitOf 11 (some .int) 11 2 := ⟨⟨_, rfl, rfl⟩, by decide, g_1757, gp_95, g_11, g_1758, by decide, by decide, by decide +kernel⟩
theorem yV_X11_flaw : YV yX11_flaw cX11_flaw 2 none 11 1 := ⟨⟨_, rfl, rfl⟩, by decide, g_1419, gp_50, g_11, g_1420, by decide, by decide, by decide +kernel⟩
theorem yV_X11_goesOn : YV yX11_goesOn cX11_goesOn 3 none 11 0 := ⟨⟨_, rfl, rfl⟩, by decide, g_1382, gp_44, g_11, g_1383, by decide, by decide, by decide +kernel⟩
theorem yV_X11_good : YV yX11_good cX11_good 2 (some .int) 11 1 := ⟨⟨_, rfl, rfl⟩, by decide, g_1520, gp_67, g_11, g_1521, by decide, by decide, by decide +kernel⟩
theorem yV_X11_gotInAll : YV yX11_gotInAll cX11_gotInAll 4 (some .long) 11 0 := ⟨⟨_, rfl, rfl⟩, by decide, g_1814, gp_101, g_11, g_1815, by decide, by decide, by decide +kernel⟩
theorem yV_X11_granted : YV yX11_granted cX11_granted 1 (some .boolean) 11 0 := ⟨⟨_, rfl, rfl⟩, by decide, g_1802, gp_100, g_11, g_1803, by decide, by decide, by decide +kernel⟩
theorem yV_X11_holds : YV yX11_holds cX11_holds 1 (some .long) 11 0 := ⟨⟨_, rfl, rfl⟩, by decide, g_1818, gp_102, g_11, g_1819, by decide, by decide, by decide +kernel⟩
theorem yV_X11_hourOf : YV yX11_hourOf cX11_hourOf 2 (some .int) 11 1 := ⟨⟨_, rfl, rfl⟩, by decide, g_1709, gp_88, g_11, g_1710, by decide, by decide, by decide +kernel⟩
theorem yV_X11_inTime : YV yX11_inTime cX11_inTime 14 (some .int) 11 8 := ⟨⟨_, rfl, rfl⟩, by decide, g_1560, gp_74, g_11, g_1561, by decide, by decide, by decide +kernel⟩
theorem yV_X11_isDay : YV yX11_isDay cX11_isDay 1 (some .boolean) 11 0 := ⟨⟨_, rfl, rfl⟩, by decide, g_1781, gp_96, g_11, g_1782, by decide, by decide, by decide +kernel⟩
theorem yV_X11_isForward : YV yX11_isForward cX11_isForward 11 (some .boolean) 11 5 := ⟨⟨_, rfl, rfl⟩, by decide, g_1576, gp_75, g_11, g_1577, by decide, by decide, by decide +kernel⟩
theorem yV_X11_isHour : YV yX11_isHour cX11_isHour 2 (some .boolean) 11 1 := ⟨⟨_, rfl, rfl⟩, by decide, g_1548, gp_71, g_11, g_1549, by decide, by decide, by decide +kernel⟩
theorem yV_X11_isName : YV yX11_isName cX11_isName 1 (some .boolean) 11 0 := ⟨⟨_, rfl, rfl⟩, by decide, g_1469, gp_59, g_11, g_1470, by decide, by decide, by decide +kernel⟩
theorem yV_X11_isPlace : YV yX11_isPlace cX11_isPlace 2 (some .boolean) 11 1 := ⟨⟨_, rfl, rfl⟩, by decide, g_1681, gp_84, g_11, g_1682, by decide, by decide, by decide +kernel⟩
theorem yV_X11_isRoad : YV yX11_isRoad cX11_isRoad 2 (some .boolean) 11 1 := ⟨⟨_, rfl, rfl⟩, by decide, g_1544, gp_70, g_11, g_1545, by decide, by decide, by decide +kernel⟩
theorem yV_X11_isSeen : YV yX11_isSeen cX11_isSeen 2 (some .boolean) 11 1 := ⟨⟨_, rfl, rfl⟩, by decide, g_1753, gp_94, g_11, g_1754, by decide, by decide, by decide +kernel⟩
theorem yV_X11_isSpeed : YV yX11_isSpeed cX11_isSpeed 3 (some .boolean) 11 2 := ⟨⟨_, rfl, rfl⟩, by decide, g_1552, gp_72, g_11, g_1553, by decide, by decide, by decide +kernel⟩
theorem yV_X11_isWalker : YV yX11_isWalker cX11_isWalker 2 (some .boolean) 11 1 := ⟨⟨_, rfl, rfl⟩, by decide, g_1540, gp_69, g_11, g_1541, by decide, by decide, by decide +kernel⟩
theorem yV_X11_isWord : YV yX11_isWord cX11_isWord 2 (some .boolean) 11 1 := ⟨⟨_, rfl, rfl⟩, by decide, g_1406, gp_48, g_11, g_1407, by decide, by decide, by decide +kernel⟩
theorem yV_X11_keeps : YV yX11_keeps cX11_keeps 2 none 11 0 := ⟨⟨_, rfl, rfl⟩, by decide, g_1785, gp_97, g_11, g_1786, by decide, by decide, by decide +kernel⟩
theorem yV_X11_known : YV yX11_known cX11_known 3 (some .int) 11 1 := ⟨⟨_, rfl, rfl⟩, by decide, g_1495, gp_63, g_11, g_1496, by decide, by decide, by decide +kernel⟩
theorem yV_X11_laysWays : YV yX11_laysWays cX11_laysWays 7 none 11 3 := ⟨⟨_, rfl, rfl⟩, by decide, g_1685, gp_85, g_11, g_1686, by decide, by decide, by decide +kernel⟩
theorem yV_X11_lost : YV yX11_lost cX11_lost 2 (some .int) 11 1 := ⟨⟨_, rfl, rfl⟩, by decide, g_1617, gp_78, g_11, g_1618, by decide, by decide, by decide +kernel⟩
theorem yV_X11_meanOf : YV yX11_meanOf cX11_meanOf 7 (some .long) 11 5 := ⟨⟨_, rfl, rfl⟩, by decide, g_1705, gp_87, g_11, g_1706, by decide, by decide, by decide +kernel⟩
theorem yV_X11_names : YV yX11_names cX11_names 5 none 11 3 := ⟨⟨_, rfl, rfl⟩, by decide, g_1487, gp_61, g_11, g_1488, by decide, by decide, by decide +kernel⟩
theorem yV_X11_needs : YV yX11_needs cX11_needs 2 none 11 1 := ⟨⟨_, rfl, rfl⟩, by decide, g_1428, gp_52, g_11, g_1429, by decide, by decide, by decide +kernel⟩
theorem yV_X11_partsOf : YV yX11_partsOf cX11_partsOf 7 (some .long) 11 6 := ⟨⟨_, rfl, rfl⟩, by decide, g_1556, gp_73, g_11, g_1557, by decide, by decide, by decide +kernel⟩
theorem yV_X11_rainsIn : YV yX11_rainsIn cX11_rainsIn 3 (some .boolean) 11 1 := ⟨⟨_, rfl, rfl⟩, by decide, g_1789, gp_98, g_11, g_1790, by decide, by decide, by decide +kernel⟩
theorem yV_X11_readAll : YV yX11_readAll cX11_readAll 2 none 11 0 := ⟨⟨_, rfl, rfl⟩, by decide, g_1397, gp_46, g_11, g_1398, by decide, by decide, by decide +kernel⟩
theorem yV_X11_readFresh : YV yX11_readFresh cX11_readFresh 3 (some .long) 11 0 := ⟨⟨_, rfl, rfl⟩, by decide, g_1465, gp_58, g_11, g_1466, by decide, by decide, by decide +kernel⟩
theorem yV_X11_readLine : YV yX11_readLine cX11_readLine 1 none 11 0 := ⟨⟨_, rfl, rfl⟩, by decide, g_1401, gp_47, g_11, g_1402, by decide, by decide, by decide +kernel⟩
theorem yV_X11_readPart : YV yX11_readPart cX11_readPart 4 (some .int) 11 3 := ⟨⟨_, rfl, rfl⟩, by decide, g_1424, gp_51, g_11, g_1425, by decide, by decide, by decide +kernel⟩
theorem yV_X11_readPlace : YV yX11_readPlace cX11_readPlace 5 none 11 0 := ⟨⟨_, rfl, rfl⟩, by decide, g_1461, gp_57, g_11, g_1462, by decide, by decide, by decide +kernel⟩
theorem yV_X11_readRain : YV yX11_readRain cX11_readRain 6 none 11 0 := ⟨⟨_, rfl, rfl⟩, by decide, g_1440, gp_54, g_11, g_1441, by decide, by decide, by decide +kernel⟩
theorem yV_X11_readRoad : YV yX11_readRoad cX11_readRoad 7 none 11 0 := ⟨⟨_, rfl, rfl⟩, by decide, g_1491, gp_62, g_11, g_1492, by decide, by decide, by decide +kernel⟩
theorem yV_X11_readSeen : YV yX11_readSeen cX11_readSeen 4 none 11 0 := ⟨⟨_, rfl, rfl⟩, by decide, g_1512, gp_65, g_11, g_1513, by decide, by decide, by decide +kernel⟩
theorem yV_X11_readSide : YV yX11_readSide cX11_readSide 2 (some .int) 11 0 := ⟨⟨_, rfl, rfl⟩, by decide, g_1451, gp_56, g_11, g_1452, by decide, by decide, by decide +kernel⟩
theorem yV_X11_readWalker : YV yX11_readWalker cX11_readWalker 12 none 11 0 := ⟨⟨_, rfl, rfl⟩, by decide, g_1499, gp_64, g_11, g_1500, by decide, by decide, by decide +kernel⟩
theorem yV_X11_readWhole : YV yX11_readWhole cX11_readWhole 4 (some .int) 11 2 := ⟨⟨_, rfl, rfl⟩, by decide, g_1432, gp_53, g_11, g_1433, by decide, by decide, by decide +kernel⟩
theorem yV_X11_readWorld : YV yX11_readWorld cX11_readWorld 2 none 11 0 := ⟨⟨_, rfl, rfl⟩, by decide, g_1415, gp_49, g_11, g_1416, by decide, by decide, by decide +kernel⟩
theorem yV_X11_refused : YV yX11_refused cX11_refused 2 (some .int) 11 1 := ⟨⟨_, rfl, rfl⟩, by decide, g_1252, gp_43, g_11, g_1253, by decide, by decide, by decide +kernel⟩
theorem yV_X11_refuses : YV yX11_refuses cX11_refuses 6 (some .int) 11 5 := ⟨⟨_, rfl, rfl⟩, by decide, g_1536, gp_68, g_11, g_1537, by decide, by decide, by decide +kernel⟩
theorem yV_X11_refusesTwo : YV yX11_refusesTwo cX11_refusesTwo 8 (some .int) 11 6 := ⟨⟨_, rfl, rfl⟩, by decide, g_1661, gp_81, g_11, g_1662, by decide, by decide, by decide +kernel⟩
theorem yV_X11_refusesWay : YV yX11_refusesWay cX11_refusesWay 6 (some .int) 11 5 := ⟨⟨_, rfl, rfl⟩, by decide, g_1677, gp_83, g_11, g_1678, by decide, by decide, by decide +kernel⟩
theorem yV_X11_stepOf : YV yX11_stepOf cX11_stepOf 9 (some .int) 11 4 := ⟨⟨_, rfl, rfl⟩, by decide, g_1737, gp_93, g_11, g_1738, by decide, by decide, by decide +kernel⟩
theorem yV_X11_takes : YV yX11_takes cX11_takes 8 none 11 4 := ⟨⟨_, rfl, rfl⟩, by decide, g_1713, gp_89, g_11, g_1714, by decide, by decide, by decide +kernel⟩
theorem yV_X11_together : YV yX11_together cX11_together 10 (some .long) 11 6 := ⟨⟨_, rfl, rfl⟩, by decide, g_1665, gp_82, g_11, g_1666, by decide, by decide, by decide +kernel⟩
theorem yV_X11_told : YV yX11_told cX11_told 12 (some .long) 11 3 := ⟨⟨_, rfl, rfl⟩, by decide, g_1588, gp_76, g_11, g_1589, by decide, by decide, by decide +kernel⟩
theorem yV_X11_tries : YV yX11_tries cX11_tries 9 none 11 4 := ⟨⟨_, rfl, rfl⟩, by decide, g_1693, gp_86, g_11, g_1694, by decide, by decide, by decide +kernel⟩
theorem yV_X11_waitsOf : YV yX11_waitsOf cX11_waitsOf 5 (some .long) 11 3 := ⟨⟨_, rfl, rfl⟩, by decide, g_1721, gp_91, g_11, g_1722, by decide, by decide, by decide +kernel⟩
theorem yV_X11_wetAtBest : YV yX11_wetAtBest cX11_wetAtBest 5 (some .long) 11 4 := ⟨⟨_, rfl, rfl⟩, by decide, g_1649, gp_80, g_11, g_1650, by decide, by decide, by decide +kernel⟩
theorem yV_X11_wetOf : YV yX11_wetOf cX11_wetOf 9 (some .long) 11 5 := ⟨⟨_, rfl, rfl⟩, by decide, g_1596, gp_77, g_11, g_1597, by decide, by decide, by decide +kernel⟩
theorem yV_X1_bestSpeed : YV yX1_bestSpeed cX1_bestSpeed 11 (some .int) 1 4 := ⟨⟨_, rfl, rfl⟩, by decide, g_761, g_762, g_7, g_763, by decide, by decide, by decide +kernel⟩
theorem yV_X1_countFits : YV yX1_countFits cX1_countFits 5 (some .int) 1 2 := ⟨⟨_, rfl, rfl⟩, by decide, g_934, g_935, g_7, g_936, by decide, by decide, by decide +kernel⟩
theorem yV_X1_findFit : YV yX1_findFit cX1_findFit 7 (some .int) 1 3 := ⟨⟨_, rfl, rfl⟩, by decide, g_954, g_955, g_7, g_956, by decide, by decide, by decide +kernel⟩
theorem yV_X1_fitCode : YV yX1_fitCode cX1_fitCode 9 (some .int) 1 3 := ⟨⟨_, rfl, rfl⟩, by decide, g_942, gp_40, g_7, g_943, by decide, by decide, by decide +kernel⟩
theorem yV_X1_isForward : YV yX1_isForward cX1_isForward 6 (some .boolean) 1 1 := ⟨⟨_, rfl, rfl⟩, by decide, g_713, g_714, g_7, g_715, by decide, by decide, by decide +kernel⟩
theorem yV_X1_lay : YV yX1_lay cX1_lay 11 none 1 4 := ⟨⟨_, rfl, rfl⟩, by decide, g_693, g_694, g_7, g_695, by decide, by decide, by decide +kernel⟩
theorem yV_X1_leastWet : YV yX1_leastWet cX1_leastWet 5 (some .long) 1 4 := ⟨⟨_, rfl, rfl⟩, by decide, g_771, g_772, g_7, g_773, by decide, by decide, by decide +kernel⟩
theorem yV_X1_soak : YV yX1_soak cX1_soak 7 (some .long) 1 3 := ⟨⟨_, rfl, rfl⟩, by decide, g_710, gp_30, g_7, g_711, by decide, by decide, by decide +kernel⟩
theorem yV_X1_wetInLee : YV yX1_wetInLee cX1_wetInLee 3 (some .long) 1 2 := ⟨⟨_, rfl, rfl⟩, by decide, g_806, g_807, g_7, g_808, by decide, by decide, by decide +kernel⟩
theorem yV_X1_wetOf : YV yX1_wetOf cX1_wetOf 6 (some .long) 1 5 := ⟨⟨_, rfl, rfl⟩, by decide, g_689, g_690, g_7, g_691, by decide, by decide, by decide +kernel⟩
theorem yV_X1_worstSpeed : YV yX1_worstSpeed cX1_worstSpeed 11 (some .int) 1 4 := ⟨⟨_, rfl, rfl⟩, by decide, g_780, g_781, g_7, g_782, by decide, by decide, by decide +kernel⟩
theorem yV_X2_addFaces : YV yX2_addFaces cX2_addFaces 3 none 2 1 := ⟨⟨_, rfl, rfl⟩, by decide, g_1000, g_1001, g_10, g_1002, by decide, by decide, by decide +kernel⟩
theorem yV_X2_allGot : YV yX2_allGot cX2_allGot 4 (some .long) 2 0 := ⟨⟨_, rfl, rfl⟩, by decide, g_1023, g_1024, g_10, g_1025, by decide, by decide, by decide +kernel⟩
theorem yV_X2_copy : YV yX2_copy cX2_copy 3 none 2 1 := ⟨⟨_, rfl, rfl⟩, by decide, g_991, g_992, g_10, g_993, by decide, by decide, by decide +kernel⟩
theorem yV_X4_bodyOf : YV yX4_bodyOf cX4_bodyOf 5 (some .boolean) 4 1 := ⟨⟨_, rfl, rfl⟩, by decide, g_602, gp_22, g_6, g_603, by decide, by decide, by decide +kernel⟩
theorem yV_X4_canBeName : YV yX4_canBeName cX4_canBeName 2 (some .boolean) 4 0 := ⟨⟨_, rfl, rfl⟩, by decide, g_568, gp_16, g_6, g_569, by decide, by decide, by decide +kernel⟩
theorem yV_X4_exchange : YV yX4_exchange cX4_exchange 3 (some (.object "RainWalk$World")) 4 1 := ⟨⟨_, rfl, rfl⟩, by decide, g_626, g_627, g_6, g_628, by decide, by decide, by decide +kernel⟩
theorem yV_X4_fail : YV yX4_fail cX4_fail 2 (some .boolean) 4 1 := ⟨⟨_, rfl, rfl⟩, by decide, g_521, gp_7, g_6, g_522, by decide, by decide, by decide +kernel⟩
theorem yV_X4_findName : YV yX4_findName cX4_findName 2 (some .int) 4 0 := ⟨⟨_, rfl, rfl⟩, by decide, g_578, gp_17, g_6, g_579, by decide, by decide, by decide +kernel⟩
theorem yV_X4_hasRoom : YV yX4_hasRoom cX4_hasRoom 3 (some .boolean) 4 2 := ⟨⟨_, rfl, rfl⟩, by decide, g_539, gp_11, g_6, g_540, by decide, by decide, by decide +kernel⟩
theorem yV_X4_is : YV yX4_is cX4_is 5 (some .boolean) 4 1 := ⟨⟨_, rfl, rfl⟩, by decide, g_460, gp_5, g_6, g_461, by decide, by decide, by decide +kernel⟩
theorem yV_X4_kindOf : YV yX4_kindOf cX4_kindOf 3 (some .boolean) 4 1 := ⟨⟨_, rfl, rfl⟩, by decide, g_594, gp_21, g_6, g_595, by decide, by decide, by decide +kernel⟩
theorem yV_X4_newName : YV yX4_newName cX4_newName 2 (some .boolean) 4 1 := ⟨⟨_, rfl, rfl⟩, by decide, g_564, gp_15, g_6, g_565, by decide, by decide, by decide +kernel⟩
theorem yV_X4_next : YV yX4_next cX4_next 5 none 4 0 := ⟨⟨_, rfl, rfl⟩, by decide, g_451, gp_3, g_6, g_452, by decide, by decide, by decide +kernel⟩
theorem yV_X4_open : YV yX4_open cX4_open 3 none 4 2 := ⟨⟨_, rfl, rfl⟩, by decide, g_440, gp_2, g_6, g_441, by decide, by decide, by decide +kernel⟩
theorem yV_X4_placeBut : YV yX4_placeBut cX4_placeBut 3 (some .boolean) 4 1 := ⟨⟨_, rfl, rfl⟩, by decide, g_586, gp_19, g_6, g_587, by decide, by decide, by decide +kernel⟩
theorem yV_X4_placeLine : YV yX4_placeLine cX4_placeLine 2 (some .boolean) 4 0 := ⟨⟨_, rfl, rfl⟩, by decide, g_560, gp_14, g_6, g_561, by decide, by decide, by decide +kernel⟩
theorem yV_X4_rainLine : YV yX4_rainLine cX4_rainLine 2 (some .boolean) 4 0 := ⟨⟨_, rfl, rfl⟩, by decide, g_543, gp_12, g_6, g_544, by decide, by decide, by decide +kernel⟩
theorem yV_X4_read : YV yX4_read cX4_read 5 (some .boolean) 4 2 := ⟨⟨_, rfl, rfl⟩, by decide, g_435, g_436, g_6, g_437, by decide, by decide, by decide +kernel⟩
theorem yV_X4_roadLine : YV yX4_roadLine cX4_roadLine 2 (some .boolean) 4 0 := ⟨⟨_, rfl, rfl⟩, by decide, g_582, gp_18, g_6, g_583, by decide, by decide, by decide +kernel⟩
theorem yV_X4_seenLine : YV yX4_seenLine cX4_seenLine 2 (some .boolean) 4 0 := ⟨⟨_, rfl, rfl⟩, by decide, g_615, gp_23, g_6, g_616, by decide, by decide, by decide +kernel⟩
theorem yV_X4_side : YV yX4_side cX4_side 1 (some .boolean) 4 0 := ⟨⟨_, rfl, rfl⟩, by decide, g_550, gp_13, g_6, g_551, by decide, by decide, by decide +kernel⟩
theorem yV_X4_sign : YV yX4_sign cX4_sign 2 (some .boolean) 4 1 := ⟨⟨_, rfl, rfl⟩, by decide, g_623, gp_25, g_6, g_624, by decide, by decide, by decide +kernel⟩
theorem yV_X4_someWalker : YV yX4_someWalker cX4_someWalker 2 (some .boolean) 4 0 := ⟨⟨_, rfl, rfl⟩, by decide, g_619, gp_24, g_6, g_620, by decide, by decide, by decide +kernel⟩
theorem yV_X4_sortAt : YV yX4_sortAt cX4_sortAt 3 (some .int) 4 1 := ⟨⟨_, rfl, rfl⟩, by decide, g_455, gp_4, g_6, g_456, by decide, by decide, by decide +kernel⟩
theorem yV_X4_walkerLine : YV yX4_walkerLine cX4_walkerLine 2 (some .boolean) 4 0 := ⟨⟨_, rfl, rfl⟩, by decide, g_590, gp_20, g_6, g_591, by decide, by decide, by decide +kernel⟩
theorem yV_X4_whole : YV yX4_whole cX4_whole 3 (some .boolean) 4 2 := ⟨⟨_, rfl, rfl⟩, by decide, g_534, gp_10, g_6, g_535, by decide, by decide, by decide +kernel⟩
theorem yV_X4_word : YV yX4_word cX4_word 2 (some .boolean) 4 1 := ⟨⟨_, rfl, rfl⟩, by decide, g_530, gp_9, g_6, g_531, by decide, by decide, by decide +kernel⟩
theorem yV_X4_wordAndWhole : YV yX4_wordAndWhole cX4_wordAndWhole 4 (some .boolean) 4 3 := ⟨⟨_, rfl, rfl⟩, by decide, g_526, gp_8, g_6, g_527, by decide, by decide, by decide +kernel⟩
theorem yV_X4_worldLine : YV yX4_worldLine cX4_worldLine 1 (some .boolean) 4 0 := ⟨⟨_, rfl, rfl⟩, by decide, g_513, gp_6, g_6, g_514, by decide, by decide, by decide +kernel⟩
theorem yV_X5_airAlong : YV yX5_airAlong cX5_airAlong 4 (some .int) 5 2 := ⟨⟨_, rfl, rfl⟩, by decide, g_701, g_702, g_4, g_703, by decide, by decide, by decide +kernel⟩
theorem yV_X5_endOf : YV yX5_endOf cX5_endOf 2 (some .int) 5 1 := ⟨⟨_, rfl, rfl⟩, by decide, g_863, g_864, g_4, g_865, by decide, by decide, by decide +kernel⟩
theorem yV_X5_minutesAt : YV yX5_minutesAt cX5_minutesAt 2 (some .int) 5 1 := ⟨⟨_, rfl, rfl⟩, by decide, g_742, g_743, g_4, g_744, by decide, by decide, by decide +kernel⟩
theorem yV_X5_startOf : YV yX5_startOf cX5_startOf 2 (some .int) 5 1 := ⟨⟨_, rfl, rfl⟩, by decide, g_859, g_860, g_4, g_861, by decide, by decide, by decide +kernel⟩
theorem yV_X5_tell : YV yX5_tell cX5_tell 2 (some .int) 5 1 := ⟨⟨_, rfl, rfl⟩, by decide, g_1073, g_1074, g_4, g_1075, by decide, by decide, by decide +kernel⟩
theorem yV_X5_turnOf : YV yX5_turnOf cX5_turnOf 4 (some .int) 5 2 := ⟨⟨_, rfl, rfl⟩, by decide, g_697, g_698, g_4, g_699, by decide, by decide, by decide +kernel⟩
theorem yV_X6_canGo : YV yX6_canGo cX6_canGo 2 (some .boolean) 6 1 := ⟨⟨_, rfl, rfl⟩, by decide, g_680, g_681, g_5, g_682, by decide, by decide, by decide +kernel⟩
theorem yV_X6_shape : YV yX6_shape cX6_shape 5 none 6 3 := ⟨⟨_, rfl, rfl⟩, by decide, g_608, g_609, g_5, g_610, by decide, by decide, by decide +kernel⟩
theorem yV_X6_shield : YV yX6_shield cX6_shield 1 (some .int) 6 0 := ⟨⟨_, rfl, rfl⟩, by decide, g_717, g_718, g_5, g_719, by decide, by decide, by decide +kernel⟩
theorem yV_X6_tell : YV yX6_tell cX6_tell 2 (some .int) 6 1 := ⟨⟨_, rfl, rfl⟩, by decide, g_1065, g_1066, g_5, g_1067, by decide, by decide, by decide +kernel⟩
theorem yV_X7_addLeg : YV yX7_addLeg cX7_addLeg 9 none 7 5 := ⟨⟨_, rfl, rfl⟩, by decide, g_854, gp_36, g_8, g_855, by decide, by decide, by decide +kernel⟩
theorem yV_X7_addMove : YV yX7_addMove cX7_addMove 7 none 7 5 := ⟨⟨_, rfl, rfl⟩, by decide, g_868, gp_37, g_8, g_869, by decide, by decide, by decide +kernel⟩
theorem yV_X7_endFrom : YV yX7_endFrom cX7_endFrom 3 (some .int) 7 2 := ⟨⟨_, rfl, rfl⟩, by decide, g_905, g_906, g_8, g_907, by decide, by decide, by decide +kernel⟩
theorem yV_X7_forget : YV yX7_forget cX7_forget 1 none 7 0 := ⟨⟨_, rfl, rfl⟩, by decide, g_630, g_631, g_8, g_632, by decide, by decide, by decide +kernel⟩
theorem yV_X7_isOpen : YV yX7_isOpen cX7_isOpen 3 (some .boolean) 7 2 := ⟨⟨_, rfl, rfl⟩, by decide, g_889, g_890, g_8, g_891, by decide, by decide, by decide +kernel⟩
theorem yV_X7_keyOf : YV yX7_keyOf cX7_keyOf 4 (some .long) 7 2 := ⟨⟨_, rfl, rfl⟩, by decide, g_894, gp_39, g_8, g_895, by decide, by decide, by decide +kernel⟩
theorem yV_X7_makeRows : YV yX7_makeRows cX7_makeRows 1 none 7 0 := ⟨⟨_, rfl, rfl⟩, by decide, g_838, gp_34, g_8, g_839, by decide, by decide, by decide +kernel⟩
theorem yV_X7_meanFrom : YV yX7_meanFrom cX7_meanFrom 3 (some .long) 7 2 := ⟨⟨_, rfl, rfl⟩, by decide, g_897, g_898, g_8, g_899, by decide, by decide, by decide +kernel⟩
theorem yV_X7_price : YV yX7_price cX7_price 12 none 7 3 := ⟨⟨_, rfl, rfl⟩, by decide, g_847, gp_35, g_8, g_848, by decide, by decide, by decide +kernel⟩
theorem yV_X7_reckon : YV yX7_reckon cX7_reckon 9 none 7 6 := ⟨⟨_, rfl, rfl⟩, by decide, g_833, g_834, g_8, g_835, by decide, by decide, by decide +kernel⟩
theorem yV_X7_reckonMinute : YV yX7_reckonMinute cX7_reckonMinute 9 none 7 2 := ⟨⟨_, rfl, rfl⟩, by decide, g_885, gp_38, g_8, g_886, by decide, by decide, by decide +kernel⟩
theorem yV_X7_trace : YV yX7_trace cX7_trace 10 (some .int) 7 3 := ⟨⟨_, rfl, rfl⟩, by decide, g_913, g_914, g_8, g_915, by decide, by decide, by decide +kernel⟩
theorem yV_X8_canWait : YV yX8_canWait cX8_canWait 2 (some .boolean) 8 1 := ⟨⟨_, rfl, rfl⟩, by decide, g_871, g_872, g_2, g_873, by decide, by decide, by decide +kernel⟩
theorem yV_X8_clear : YV yX8_clear cX8_clear 1 none 8 0 := ⟨⟨_, rfl, rfl⟩, by decide, g_446, g_447, g_2, g_448, by decide, by decide, by decide +kernel⟩
theorem yV_X8_dripOn : YV yX8_dripOn cX8_dripOn 3 (some .int) 8 2 := ⟨⟨_, rfl, rfl⟩, by decide, g_876, g_877, g_2, g_878, by decide, by decide, by decide +kernel⟩
theorem yV_X8_hasHour : YV yX8_hasHour cX8_hasHour 2 (some .boolean) 8 1 := ⟨⟨_, rfl, rfl⟩, by decide, g_676, g_677, g_2, g_678, by decide, by decide, by decide +kernel⟩
theorem yV_X8_hasPlace : YV yX8_hasPlace cX8_hasPlace 2 (some .boolean) 8 1 := ⟨⟨_, rfl, rfl⟩, by decide, g_826, g_827, g_2, g_828, by decide, by decide, by decide +kernel⟩
theorem yV_X8_hasRoad : YV yX8_hasRoad cX8_hasRoad 2 (some .boolean) 8 1 := ⟨⟨_, rfl, rfl⟩, by decide, g_669, g_670, g_2, g_671, by decide, by decide, by decide +kernel⟩
theorem yV_X8_hasSeen : YV yX8_hasSeen cX8_hasSeen 2 (some .boolean) 8 1 := ⟨⟨_, rfl, rfl⟩, by decide, g_930, g_931, g_2, g_932, by decide, by decide, by decide +kernel⟩
theorem yV_X8_hasWalker : YV yX8_hasWalker cX8_hasWalker 2 (some .boolean) 8 1 := ⟨⟨_, rfl, rfl⟩, by decide, g_665, g_666, g_2, g_667, by decide, by decide, by decide +kernel⟩
theorem yV_X8_hourOf : YV yX8_hourOf cX8_hourOf 2 (some .int) 8 1 := ⟨⟨_, rfl, rfl⟩, by decide, g_841, g_842, g_2, g_843, by decide, by decide, by decide +kernel⟩
theorem yV_X8_isTold : YV yX8_isTold cX8_isTold 1 (some .boolean) 8 0 := ⟨⟨_, rfl, rfl⟩, by decide, g_516, g_517, g_2, g_518, by decide, by decide, by decide +kernel⟩
theorem yV_X9_grant : YV yX9_grant cX9_grant 2 (some .int) 9 1 := ⟨⟨_, rfl, rfl⟩, by decide, g_639, gp_26, g_1, g_640, by decide, by decide, by decide +kernel⟩
theorem yV_X9_leeTrouble : YV yX9_leeTrouble cX9_leeTrouble 8 (some .int) 9 6 := ⟨⟨_, rfl, rfl⟩, by decide, g_803, gp_31, g_1, g_804, by decide, by decide, by decide +kernel⟩
theorem yV_X9_legTrouble : YV yX9_legTrouble cX9_legTrouble 7 (some .int) 9 5 := ⟨⟨_, rfl, rfl⟩, by decide, g_658, gp_27, g_1, g_659, by decide, by decide, by decide +kernel⟩
theorem yV_X9_placesTrouble : YV yX9_placesTrouble cX9_placesTrouble 5 (some .int) 9 3 := ⟨⟨_, rfl, rfl⟩, by decide, g_823, gp_33, g_1, g_824, by decide, by decide, by decide +kernel⟩
theorem yV_X9_putBytes : YV yX9_putBytes cX9_putBytes 3 none 9 1 := ⟨⟨_, rfl, rfl⟩, by decide, g_424, gp_0, g_1, g_425, by decide, by decide, by decide +kernel⟩
theorem yV_X9_refuse : YV yX9_refuse cX9_refuse 2 (some .int) 9 1 := ⟨⟨_, rfl, rfl⟩, by decide, g_432, gp_1, g_1, g_433, by decide, by decide, by decide +kernel⟩
theorem yV_X9_refusedBy : YV yX9_refusedBy cX9_refusedBy 2 (some .boolean) 9 1 := ⟨⟨_, rfl, rfl⟩, by decide, g_685, gp_29, g_1, g_686, by decide, by decide, by decide +kernel⟩
theorem yV_X9_stayTrouble : YV yX9_stayTrouble cX9_stayTrouble 2 (some .int) 9 1 := ⟨⟨_, rfl, rfl⟩, by decide, g_1010, gp_41, g_1, g_1011, by decide, by decide, by decide +kernel⟩
theorem yV_X9_tripTrouble : YV yX9_tripTrouble cX9_tripTrouble 6 (some .int) 9 4 := ⟨⟨_, rfl, rfl⟩, by decide, g_662, gp_28, g_1, g_663, by decide, by decide, by decide +kernel⟩
theorem yV_X9_wayTrouble : YV yX9_wayTrouble cX9_wayTrouble 7 (some .int) 9 5 := ⟨⟨_, rfl, rfl⟩, by decide, g_819, gp_32, g_1, g_820, by decide, by decide, by decide +kernel⟩
end
section
def rm_X0_end : Room := { frames := 0, cells := 0, slots := 0, locals := 0 }
def P_X0_end_0 (Q : HS → Prop) (v0 : Nat) (S : HS) : Prop := ob S v0 0 ∧ (∀ S1 : HS, S1 = sI S v0 0 (-1 : Int32) → (∀ S2 : HS, S2 = sI S1 v0 2 (0 : Int32) → (∀ S3 : HS, S3 = sI S2 v0 3 (0 : Int32) → (Q S3))))
set_option maxRecDepth 20000 in
set_option maxHeartbeats 4000000 in
theorem T_X0_end_0 {X : CX} {Q : HS → Prop} (C : Cx X cX0_end RX0 1 rm_X0_end) (E : ReV X rm_X0_end Q) (ht : (xh X).sig.returnType = none) (hn : (xh X).name = yX0_end.name) {v0 : Nat} {S : HS} (h : P_X0_end_0 Q v0 S) : WS X 1 0 0 0 [(0, .ref v0)] [] S := by
  refine r_aload_n (pc := 0) C dX0_end_0 0 rfl ?_
  refine r_iconst (pc := 1) C (v := (-1 : Int32)) dX0_end_1 (by decide) ?_
  obtain ⟨o_v0, h⟩ := h
  refine r_puti (pc := 2) C pfL_X0_9 dX0_end_2 o_v0 ?_
  refine r_heap (fun S1 eS1 => ?_)
  have h := h S1 eS1
  have o_v0 := ob_I eS1 o_v0
  refine r_aload_n (pc := 5) C dX0_end_5 0 rfl ?_
  refine r_iconst (pc := 6) C (v := (0 : Int32)) dX0_end_6 (by decide) ?_
  refine r_puti (pc := 7) C pfL_X0_29 dX0_end_7 o_v0 ?_
  refine r_heap (fun S2 eS2 => ?_)
  have h := h S2 eS2
  have o_v0 := ob_I eS2 o_v0
  refine r_aload_n (pc := 10) C dX0_end_10 0 rfl ?_
  refine r_iconst (pc := 11) C (v := (0 : Int32)) dX0_end_11 (by decide) ?_
  refine r_puti (pc := 12) C pfL_X0_32 dX0_end_12 o_v0 ?_
  refine r_heap (fun S3 eS3 => ?_)
  have h := h S3 eS3
  have o_v0 := ob_I eS3 o_v0
  exact r_vret (pc := 15) C E ht dX0_end_15 (by decide) (by decide) h
def P_X0_end (v0 : Nat) (Q : HS → Prop) (S : HS) : Prop := P_X0_end_0 Q v0 S
theorem c_X0_end {l : Launch} {Ee : EE} {S : HS} {v0 : Nat} {Q : HS → Prop} (h : P_X0_end v0 Q S) : MV l yX0_end cX0_end 1 none rm_X0_end Ee S [.ref v0] Q :=
  openV (by decide) (Nat.le_of_ble_eq_true rfl) (fun X C E ht hn hE hl => by subst hE; exact r_sub [0] rfl (T_X0_end_0 C E ht hn h))
def rm_X0_begin : Room := { frames := 1, cells := 0, slots := 0, locals := 20 }
def B_X0_begin_28 (Q : HS → Prop) (X28 : Nat → Int32 → HS → Prop) (v0 : Nat) (v4 : Int32) (S : HS) : Prop := (((5 : Int32) ≤ v4) → (Q S)) ∧ ((¬ (5 : Int32) ≤ v4) → (ob S v0 0 ∧ (∃ a2 : Nat, fR S v0 4 = some a2 ∧ (ob S a2 2 ∧ (∃ a3 : Nat, fR S a2 2 = some a3 ∧ (ob S a3 14 ∧ (vp_in v4 (hN S a3) ∧ (∀ S5 : HS, S5 = sJ S a3 v4.toNatClampNeg (0 : Int64) → (∀ x6 : Int32, x6 = v4 + (1 : Int32) → (X28 v0 x6 S5))))))))))
def P_X0_begin_28 (Q : HS → Prop) (v0 : Nat) (v4 : Int32) (S : HS) : Prop := ∀ X28 : Nat → Int32 → HS → Prop, (∀ (v0 : Nat) (v4 : Int32) (S : HS), B_X0_begin_28 Q X28 v0 v4 S → X28 v0 v4 S) → X28 v0 v4 S
set_option maxRecDepth 20000 in
set_option maxHeartbeats 4000000 in
theorem TB_X0_begin_28 {X : CX} {Q : HS → Prop} (C : Cx X cX0_begin RX0 5 rm_X0_begin) (E : ReV X rm_X0_begin Q) (ht : (xh X).sig.returnType = none) (hn : (xh X).name = yX0_begin.name) {X28 : Nat → Int32 → HS → Prop} (hX28 : ∀ (v0 : Nat) (v4 : Int32) (S : HS), X28 v0 v4 S → WS X 5 0 0 28 [(0, .ref v0), (4, .int v4)] [] S) {v0 : Nat} {v4 : Int32} {S : HS} (h : B_X0_begin_28 Q X28 v0 v4 S) : WS X 5 0 0 28 [(0, .ref v0), (4, .int v4)] [] S := by
  refine r_iload (pc := 28) C dX0_begin_28 1 rfl ?_
  refine r_iconst (pc := 30) C (v := (5 : Int32)) dX0_begin_30 (by decide) ?_
  refine r_icmp_ge (pc := 31) C (tgt := 51) dX0_begin_31 (by decide) (fun c1 => ?_) (fun c1 => ?_)
  · have h := h.1 c1
    exact r_vret (pc := 51) C E ht dX0_begin_51 (by decide) (by decide) h
  · have h := h.2 c1
    refine r_aload_n (pc := 34) C dX0_begin_34 0 rfl ?_
    obtain ⟨o_v0, h⟩ := h
    obtain ⟨a2, ea2, h⟩ := h
    refine r_getr (pc := 35) C fL_X0_18 dX0_begin_35 o_v0 ea2 ?_
    obtain ⟨o_a2, h⟩ := h
    obtain ⟨a3, ea3, h⟩ := h
    refine r_getr (pc := 38) C fL_X0_44 dX0_begin_38 o_a2 ea3 ?_
    refine r_iload (pc := 41) C dX0_begin_41 1 rfl ?_
    refine r_lconst (pc := 43) C (v := (0 : Int64)) dX0_begin_43 (by decide) ?_
    obtain ⟨o_a3, h⟩ := h
    obtain ⟨i4, h⟩ := h
    refine r_last (pc := 44) C dX0_begin_44 o_a3 i4 ?_
    refine r_heap (fun S5 eS5 => ?_)
    have h := h S5 eS5
    have o_a2 := ob_J eS5 o_a2
    have o_a3 := ob_J eS5 o_a3
    have o_v0 := ob_J eS5 o_v0
    obtain ⟨x6, ex6⟩ : ∃ z : Int32, z = v4 + (1 : Int32) := ⟨_, rfl⟩
    have h := h x6 ex6
    refine r_iinc (pc := 45) C (v := x6) (lv' := [(4, .int x6), (0, .ref v0)]) dX0_begin_45 1 rfl ex6.symm (by decide) rfl ?_
    refine r_goto (pc := 48) C (tgt := 28) dX0_begin_48 (by decide) ?_
    exact r_sub [1, 0] rfl (hX28 v0 x6 S5 h)
theorem T_X0_begin_28 {X : CX} {Q : HS → Prop} (C : Cx X cX0_begin RX0 5 rm_X0_begin) (E : ReV X rm_X0_begin Q) (ht : (xh X).sig.returnType = none) (hn : (xh X).name = yX0_begin.name) {v0 : Nat} {v4 : Int32} {S : HS} (h : P_X0_begin_28 Q v0 v4 S) : WS X 5 0 0 28 [(0, .ref v0), (4, .int v4)] [] S :=
  h (fun v0 v4 S => WS X 5 0 0 28 [(0, .ref v0), (4, .int v4)] [] S) (fun v0 v4 S hh => TB_X0_begin_28 C E ht hn (fun v0 v4 S z => z) hh)
def P_X0_begin_0 (Q : HS → Prop) (v0 : Nat) (v1 : Int32) (v2 : Int32) (v3 : Int32) (S : HS) : Prop := ob S v0 0 ∧ (P_X0_end v0 (fun S1 => Gr S S1 → (∀ S4 : HS, S4 = sI S1 v0 0 v1 → (∃ a5 : Nat, fR S4 v0 4 = some a5 ∧ (ob S4 a5 2 ∧ (∀ S6 : HS, S6 = sI S4 a5 0 v2 → (∃ a7 : Nat, fR S6 v0 4 = some a7 ∧ (ob S6 a7 2 ∧ (∀ S8 : HS, S8 = sI S6 a7 1 v3 → (P_X0_begin_28 Q v0 (0 : Int32) S8))))))))) S)
set_option maxRecDepth 20000 in
set_option maxHeartbeats 4000000 in
theorem T_X0_begin_0 {X : CX} {Q : HS → Prop} (C : Cx X cX0_begin RX0 5 rm_X0_begin) (E : ReV X rm_X0_begin Q) (ht : (xh X).sig.returnType = none) (hn : (xh X).name = yX0_begin.name) {v0 : Nat} {v1 : Int32} {v2 : Int32} {v3 : Int32} {S : HS} (h : P_X0_begin_0 Q v0 v1 v2 v3 S) : WS X 5 0 0 0 [(0, .ref v0), (1, .int v1), (2, .int v2), (3, .int v3)] [] S := by
  refine r_aload_n (pc := 0) C dX0_begin_0 0 rfl ?_
  obtain ⟨o_v0, h⟩ := h
  refine r_callVv0 (pc := 1) C (rest := []) (a := v0) o_v0 [] yV_X0_end g_971 (c_X0_end h) dX0_begin_1 rfl rfl (Nat.le_of_ble_eq_true rfl) ⟨by decide, by decide⟩ ⟨by decide, by decide⟩ ⟨rfl, rfl⟩ (fun S1 h g2 => ?_)
  have h := h g2
  have o_v0 := gr_ob g2 o_v0
  refine r_aload_n (pc := 4) C dX0_begin_4 0 rfl ?_
  refine r_iload_n (pc := 5) C dX0_begin_5 1 rfl ?_
  refine r_puti (pc := 6) C pfL_X0_9 dX0_begin_6 o_v0 ?_
  refine r_heap (fun S4 eS4 => ?_)
  have h := h S4 eS4
  have o_v0 := ob_I eS4 o_v0
  refine r_aload_n (pc := 9) C dX0_begin_9 0 rfl ?_
  obtain ⟨a5, ea5, h⟩ := h
  refine r_getr (pc := 10) C fL_X0_18 dX0_begin_10 o_v0 ea5 ?_
  refine r_iload_n (pc := 13) C dX0_begin_13 2 rfl ?_
  obtain ⟨o_a5, h⟩ := h
  refine r_puti (pc := 14) C pfL_X0_38 dX0_begin_14 o_a5 ?_
  refine r_heap (fun S6 eS6 => ?_)
  have h := h S6 eS6
  have o_a5 := ob_I eS6 o_a5
  have o_v0 := ob_I eS6 o_v0
  refine r_aload_n (pc := 17) C dX0_begin_17 0 rfl ?_
  obtain ⟨a7, ea7, h⟩ := h
  refine r_getr (pc := 18) C fL_X0_18 dX0_begin_18 o_v0 ea7 ?_
  refine r_iload_n (pc := 21) C dX0_begin_21 3 rfl ?_
  obtain ⟨o_a7, h⟩ := h
  refine r_puti (pc := 22) C pfL_X0_41 dX0_begin_22 o_a7 ?_
  refine r_heap (fun S8 eS8 => ?_)
  have h := h S8 eS8
  have o_a5 := ob_I eS8 o_a5
  have o_a7 := ob_I eS8 o_a7
  have o_v0 := ob_I eS8 o_v0
  refine r_iconst (pc := 25) C (v := (0 : Int32)) dX0_begin_25 (by decide) ?_
  refine r_istore (pc := 26) C dX0_begin_26 (by decide) (lv' := [(4, .int (0 : Int32)), (0, .ref v0), (1, .int v1), (2, .int v2), (3, .int v3)]) rfl ?_
  exact r_sub [1, 0] rfl (T_X0_begin_28 C E ht hn h)
def P_X0_begin (v0 : Nat) (v1 : Int32) (v2 : Int32) (v3 : Int32) (Q : HS → Prop) (S : HS) : Prop := P_X0_begin_0 Q v0 v1 v2 v3 S
theorem c_X0_begin {l : Launch} {Ee : EE} {S : HS} {v0 : Nat} {v1 : Int32} {v2 : Int32} {v3 : Int32} {Q : HS → Prop} (h : P_X0_begin v0 v1 v2 v3 Q S) : MV l yX0_begin cX0_begin 5 none rm_X0_begin Ee S [.ref v0, .int v1, .int v2, .int v3] Q :=
  openV (by decide) (Nat.le_of_ble_eq_true rfl) (fun X C E ht hn hE hl => by subst hE; exact r_sub [0, 1, 2, 3] rfl (T_X0_begin_0 C E ht hn h))
def rm_X0_draw : Room := { frames := 0, cells := 0, slots := 0, locals := 0 }
def P_X0_draw_60 (Q : HS → Prop) (X10 : Nat → Nat → Int32 → Int32 → HS → Prop) (v0 : Nat) (v1 : Nat) (v3 : Int32) (v4 : Int32) (S : HS) : Prop := ∀ x1 : Int32, x1 = v4 + (1 : Int32) → (X10 v0 v1 v3 x1 S)
set_option maxRecDepth 20000 in
set_option maxHeartbeats 4000000 in
theorem T_X0_draw_60 {X : CX} {Q : HS → Prop} (C : Cx X cX0_draw RX0 5 rm_X0_draw) (E : ReV X rm_X0_draw Q) (ht : (xh X).sig.returnType = none) (hn : (xh X).name = yX0_draw.name) {X10 : Nat → Nat → Int32 → Int32 → HS → Prop} (hX10 : ∀ (v0 : Nat) (v1 : Nat) (v3 : Int32) (v4 : Int32) (S : HS), X10 v0 v1 v3 v4 S → WS X 5 0 0 10 [(0, .ref v0), (1, .ref v1), (3, .int v3), (4, .int v4)] [] S) {v0 : Nat} {v1 : Nat} {v3 : Int32} {v4 : Int32} {S : HS} (h : P_X0_draw_60 Q X10 v0 v1 v3 v4 S) : WS X 5 0 0 60 [(0, .ref v0), (1, .ref v1), (3, .int v3), (4, .int v4)] [] S := by
  obtain ⟨x1, ex1⟩ : ∃ z : Int32, z = v4 + (1 : Int32) := ⟨_, rfl⟩
  have h := h x1 ex1
  refine r_iinc (pc := 60) C (v := x1) (lv' := [(4, .int x1), (0, .ref v0), (1, .ref v1), (3, .int v3)]) dX0_draw_60 3 rfl ex1.symm (by decide) rfl ?_
  refine r_goto (pc := 63) C (tgt := 10) dX0_draw_63 (by decide) ?_
  exact r_sub [1, 2, 3, 0] rfl (hX10 v0 v1 v3 x1 S h)
def B_X0_draw_10 (Q : HS → Prop) (X10 : Nat → Nat → Int32 → Int32 → HS → Prop) (v0 : Nat) (v1 : Nat) (v3 : Int32) (v4 : Int32) (S : HS) : Prop := ob S v1 8 ∧ (∀ x1 : Int32, x1 = fI S v1 1 → (((x1 ≤ v4) → (Q S)) ∧ ((¬ x1 ≤ v4) → (∀ x3 : Int32, x3 = (((75 : Int32) * v3) + (74 : Int32)) - (((75 : Int32) * v3) + (74 : Int32)) / (65537 : Int32) * (65537 : Int32) → (∀ x4 : Int32, x4 = x3 - x3 / (100 : Int32) * (100 : Int32) → (∃ a5 : Nat, fR S v1 6 = some a5 ∧ (ob S a5 17 ∧ (vp_in v4 (hN S a5) ∧ ∃ a7 : Nat, fR S a5 v4.toNatClampNeg = some a7 ∧ (ob S a7 3 ∧ (∀ x8 : Int32, x8 = fI S a7 4 → (((x8 ≤ x4) → (P_X0_draw_60 Q X10 v0 v1 x3 v4 S)) ∧ ((¬ x8 ≤ x4) → (ob S v0 0 ∧ (∀ x10 : Int32, x10 = fI S v0 1 → (∀ x11 : Int32, x11 = x10 ||| ((1 : Int32) <<< (v4 &&& 31)) → (∀ S12 : HS, S12 = sI S v0 1 x11 → (P_X0_draw_60 Q X10 v0 v1 x3 v4 S12)))))))))))))))))
def P_X0_draw_10 (Q : HS → Prop) (v0 : Nat) (v1 : Nat) (v3 : Int32) (v4 : Int32) (S : HS) : Prop := ∀ X10 : Nat → Nat → Int32 → Int32 → HS → Prop, (∀ (v0 : Nat) (v1 : Nat) (v3 : Int32) (v4 : Int32) (S : HS), B_X0_draw_10 Q X10 v0 v1 v3 v4 S → X10 v0 v1 v3 v4 S) → X10 v0 v1 v3 v4 S
set_option maxRecDepth 20000 in
set_option maxHeartbeats 4000000 in
theorem TB_X0_draw_10 {X : CX} {Q : HS → Prop} (C : Cx X cX0_draw RX0 5 rm_X0_draw) (E : ReV X rm_X0_draw Q) (ht : (xh X).sig.returnType = none) (hn : (xh X).name = yX0_draw.name) {X10 : Nat → Nat → Int32 → Int32 → HS → Prop} (hX10 : ∀ (v0 : Nat) (v1 : Nat) (v3 : Int32) (v4 : Int32) (S : HS), X10 v0 v1 v3 v4 S → WS X 5 0 0 10 [(0, .ref v0), (1, .ref v1), (3, .int v3), (4, .int v4)] [] S) {v0 : Nat} {v1 : Nat} {v3 : Int32} {v4 : Int32} {S : HS} (h : B_X0_draw_10 Q X10 v0 v1 v3 v4 S) : WS X 5 0 0 10 [(0, .ref v0), (1, .ref v1), (3, .int v3), (4, .int v4)] [] S := by
  refine r_iload (pc := 10) C dX0_draw_10 3 rfl ?_
  refine r_aload_n (pc := 12) C dX0_draw_12 1 rfl ?_
  obtain ⟨o_v1, h⟩ := h
  refine r_geti (pc := 13) C fL_X0_51 dX0_draw_13 o_v1 ?_
  refine r_topi (fun x1 ex1 => ?_)
  have h := h x1 ex1
  refine r_icmp_ge (pc := 16) C (tgt := 66) dX0_draw_16 (by decide) (fun c2 => ?_) (fun c2 => ?_)
  · have h := h.1 c2
    exact r_vret (pc := 66) C E ht dX0_draw_66 (by decide) (by decide) h
  · have h := h.2 c2
    refine r_bipush (pc := 19) C (v := (75 : Int32)) dX0_draw_19 (by decide) ?_
    refine r_iload_n (pc := 21) C dX0_draw_21 2 rfl ?_
    refine r_imul (pc := 22) C dX0_draw_22 ?_
    refine r_bipush (pc := 23) C (v := (74 : Int32)) dX0_draw_23 (by decide) ?_
    refine r_iadd (pc := 25) C dX0_draw_25 ?_
    refine r_ldc (pc := 26) C (v := (65537 : Int32)) dX0_draw_26 g_976 ?_
    refine r_irem (pc := 28) C dX0_draw_28 (by decide) ?_
    refine r_topi (fun x3 ex3 => ?_)
    have h := h x3 ex3
    refine r_istore_n (pc := 29) C dX0_draw_29 rfl (by decide) (lv' := [(3, .int x3), (0, .ref v0), (1, .ref v1), (4, .int v4)]) rfl ?_
    refine r_iload_n (pc := 30) C dX0_draw_30 0 rfl ?_
    refine r_bipush (pc := 31) C (v := (100 : Int32)) dX0_draw_31 (by decide) ?_
    refine r_irem (pc := 33) C dX0_draw_33 (by decide) ?_
    refine r_topi (fun x4 ex4 => ?_)
    have h := h x4 ex4
    refine r_aload_n (pc := 34) C dX0_draw_34 2 rfl ?_
    obtain ⟨a5, ea5, h⟩ := h
    refine r_getr (pc := 35) C fL_X0_57 dX0_draw_35 o_v1 ea5 ?_
    refine r_iload (pc := 38) C dX0_draw_38 3 rfl ?_
    obtain ⟨o_a5, h⟩ := h
    obtain ⟨i6, a7, ea7, h⟩ := h
    refine r_aald17 (pc := 40) C dX0_draw_40 o_a5 i6 ea7 ?_
    obtain ⟨o_a7, h⟩ := h
    refine r_geti (pc := 41) C fL_X0_61 dX0_draw_41 o_a7 ?_
    refine r_topi (fun x8 ex8 => ?_)
    have h := h x8 ex8
    refine r_icmp_ge (pc := 44) C (tgt := 60) dX0_draw_44 (by decide) (fun c9 => ?_) (fun c9 => ?_)
    · have h := h.1 c9
      exact r_sub [1, 2, 0, 3] rfl (T_X0_draw_60 C E ht hn hX10 h)
    · have h := h.2 c9
      refine r_aload_n (pc := 47) C dX0_draw_47 1 rfl ?_
      refine r_dup (pc := 48) C dX0_draw_48 rfl ?_
      obtain ⟨o_v0, h⟩ := h
      refine r_geti (pc := 49) C fL_X0_48 dX0_draw_49 o_v0 ?_
      refine r_topi (fun x10 ex10 => ?_)
      have h := h x10 ex10
      refine r_iconst (pc := 52) C (v := (1 : Int32)) dX0_draw_52 (by decide) ?_
      refine r_iload (pc := 53) C dX0_draw_53 3 rfl ?_
      refine r_ishl (pc := 55) C dX0_draw_55 ?_
      refine r_ior (pc := 56) C dX0_draw_56 ?_
      refine r_topi (fun x11 ex11 => ?_)
      have h := h x11 ex11
      refine r_puti (pc := 57) C pfL_X0_48 dX0_draw_57 o_v0 ?_
      refine r_heap (fun S12 eS12 => ?_)
      have h := h S12 eS12
      have o_a5 := ob_I eS12 o_a5
      have o_a7 := ob_I eS12 o_a7
      have o_v0 := ob_I eS12 o_v0
      have o_v1 := ob_I eS12 o_v1
      exact r_sub [1, 2, 0, 3] rfl (T_X0_draw_60 C E ht hn hX10 h)
theorem T_X0_draw_10 {X : CX} {Q : HS → Prop} (C : Cx X cX0_draw RX0 5 rm_X0_draw) (E : ReV X rm_X0_draw Q) (ht : (xh X).sig.returnType = none) (hn : (xh X).name = yX0_draw.name) {v0 : Nat} {v1 : Nat} {v3 : Int32} {v4 : Int32} {S : HS} (h : P_X0_draw_10 Q v0 v1 v3 v4 S) : WS X 5 0 0 10 [(0, .ref v0), (1, .ref v1), (3, .int v3), (4, .int v4)] [] S :=
  h (fun v0 v1 v3 v4 S => WS X 5 0 0 10 [(0, .ref v0), (1, .ref v1), (3, .int v3), (4, .int v4)] [] S) (fun v0 v1 v3 v4 S hh => TB_X0_draw_10 C E ht hn (fun v0 v1 v3 v4 S z => z) hh)
def P_X0_draw_0 (Q : HS → Prop) (v0 : Nat) (v1 : Nat) (v2 : Int32) (S : HS) : Prop := ob S v0 0 ∧ (∀ S1 : HS, S1 = sI S v0 1 (0 : Int32) → (P_X0_draw_10 Q v0 v1 v2 (0 : Int32) S1))
set_option maxRecDepth 20000 in
set_option maxHeartbeats 4000000 in
theorem T_X0_draw_0 {X : CX} {Q : HS → Prop} (C : Cx X cX0_draw RX0 5 rm_X0_draw) (E : ReV X rm_X0_draw Q) (ht : (xh X).sig.returnType = none) (hn : (xh X).name = yX0_draw.name) {v0 : Nat} {v1 : Nat} {v2 : Int32} {S : HS} (h : P_X0_draw_0 Q v0 v1 v2 S) : WS X 5 0 0 0 [(0, .ref v0), (1, .ref v1), (2, .int v2)] [] S := by
  refine r_iload_n (pc := 0) C dX0_draw_0 2 rfl ?_
  refine r_istore_n (pc := 1) C dX0_draw_1 rfl (by decide) (lv' := [(3, .int v2), (0, .ref v0), (1, .ref v1), (2, .int v2)]) rfl ?_
  refine r_aload_n (pc := 2) C dX0_draw_2 1 rfl ?_
  refine r_iconst (pc := 3) C (v := (0 : Int32)) dX0_draw_3 (by decide) ?_
  obtain ⟨o_v0, h⟩ := h
  refine r_puti (pc := 4) C pfL_X0_48 dX0_draw_4 o_v0 ?_
  refine r_heap (fun S1 eS1 => ?_)
  have h := h S1 eS1
  have o_v0 := ob_I eS1 o_v0
  refine r_iconst (pc := 7) C (v := (0 : Int32)) dX0_draw_7 (by decide) ?_
  refine r_istore (pc := 8) C dX0_draw_8 (by decide) (lv' := [(4, .int (0 : Int32)), (3, .int v2), (0, .ref v0), (1, .ref v1), (2, .int v2)]) rfl ?_
  exact r_sub [2, 3, 1, 0] rfl (T_X0_draw_10 C E ht hn h)
def P_X0_draw (v0 : Nat) (v1 : Nat) (v2 : Int32) (Q : HS → Prop) (S : HS) : Prop := P_X0_draw_0 Q v0 v1 v2 S
theorem c_X0_draw {l : Launch} {Ee : EE} {S : HS} {v0 : Nat} {v1 : Nat} {v2 : Int32} {Q : HS → Prop} (h : P_X0_draw v0 v1 v2 Q S) : MV l yX0_draw cX0_draw 5 none rm_X0_draw Ee S [.ref v0, .ref v1, .int v2] Q :=
  openV (by decide) (Nat.le_of_ble_eq_true rfl) (fun X C E ht hn hE hl => by subst hE; exact r_sub [0, 1, 2] rfl (T_X0_draw_0 C E ht hn h))
def rm_X2_init : Room := { frames := 1, cells := 1, slots := 5, locals := 20 }
def P_X2_init_0 (Q : HS → Prop) (v0 : Nat) (S : HS) : Prop := ∀ a1 : Nat, a1 ∉ hL S → ∀ S2 : HS, S2 = nW S a1 14 5 → (ob S2 v0 2 ∧ (∀ S3 : HS, S3 = sR S2 v0 2 (some a1) → (Q S3)))
set_option maxRecDepth 20000 in
set_option maxHeartbeats 4000000 in
theorem T_X2_init_0 {X : CX} {Q : HS → Prop} (C : Cx X cX2_init RX2 1 rm_X2_init) (E : ReV X rm_X2_init Q) (ht : (xh X).sig.returnType = none) (hn : (xh X).name = yX2_init.name) {v0 : Nat} {S : HS} (h : P_X2_init_0 Q v0 S) : WS X 1 0 0 0 [(0, .ref v0)] [] S := by
  refine r_aload_n (pc := 0) C dX2_init_0 0 rfl ?_
  refine r_objinit (pc := 1) C g_342 dX2_init_1 (by decide) (Nat.le_of_ble_eq_true rfl) ?_
  refine r_aload_n (pc := 4) C dX2_init_4 0 rfl ?_
  refine r_iconst (pc := 5) C (v := (5 : Int32)) dX2_init_5 (by decide) ?_
  refine r_newa14 (pc := 6) C (N := 5) g_266 dX2_init_6 (by decide) (by decide) (by decide) (by decide) (by decide) (fun a1 q4 => ?_)
  refine r_heap (fun S2 eS2 => ?_)
  have h := h a1 q4 S2 eS2
  have g5 := gr_of_new eS2 q4
  have o_a1 := ob_of_new eS2
  obtain ⟨o_v0, h⟩ := h
  refine r_putFr (pc := 8) C pfL_X2_9 hn dX2_init_8 o_v0 ?_
  refine r_heap (fun S3 eS3 => ?_)
  have h := h S3 eS3
  have o_a1 := ob_R eS3 o_a1
  have o_v0 := ob_R eS3 o_v0
  exact r_vret (pc := 11) C E ht dX2_init_11 (by decide) (by decide) h
def P_X2_init (v0 : Nat) (Q : HS → Prop) (S : HS) : Prop := P_X2_init_0 Q v0 S
theorem c_X2_init {l : Launch} {Ee : EE} {S : HS} {v0 : Nat} {Q : HS → Prop} (h : P_X2_init v0 Q S) : MV l yX2_init cX2_init 1 none rm_X2_init Ee S [.ref v0] Q :=
  openV (by decide) (Nat.le_of_ble_eq_true rfl) (fun X C E ht hn hE hl => by subst hE; exact r_sub [0] rfl (T_X2_init_0 C E ht hn h))
def rm_X0_init : Room := { frames := 2, cells := 42, slots := 179, locals := 40 }
def B_X0_init_69 (Q : HS → Prop) (X69 : Nat → Int32 → Nat → Nat → HS → Prop) (v0 : Nat) (v1 : Int32) (kk : Nat) (nn : Nat) (S : HS) : Prop := ob S v0 0 ∧ (∃ a1 : Nat, fR S v0 6 = some a1 ∧ (ob S a1 16 ∧ ((((nI (hN S a1)) ≤ v1) → (kk ≤ rm_X0_init.cells ∧ nn ≤ rm_X0_init.slots ∧ Q S)) ∧ ((¬ (nI (hN S a1)) ≤ v1) → (∃ a3 : Nat, fR S v0 6 = some a3 ∧ (kk + 1 ≤ rm_X0_init.cells ∧ nn + 3 ≤ rm_X0_init.slots ∧ ∀ a4 : Nat, a4 ∉ hL S → ∀ S5 : HS, S5 = nW S a4 2 0 → (kk + 1 + 1 ≤ rm_X0_init.cells ∧ nn + 3 + 5 ≤ rm_X0_init.slots ∧ (P_X2_init a4 (fun S6 => Gr S5 S6 → (ob S6 a3 16 ∧ (vp_in v1 (hN S6 a3) ∧ (∀ S10 : HS, S10 = sR S6 a3 v1.toNatClampNeg (some a4) → (∀ x11 : Int32, x11 = v1 + (1 : Int32) → (X69 v0 x11 (kk + 1 + 1) (nn + 3 + 5) S10)))))) S5))))))))
def P_X0_init_69 (Q : HS → Prop) (v0 : Nat) (v1 : Int32) (kk : Nat) (nn : Nat) (S : HS) : Prop := ∀ X69 : Nat → Int32 → Nat → Nat → HS → Prop, (∀ (v0 : Nat) (v1 : Int32) (kk : Nat) (nn : Nat) (S : HS), B_X0_init_69 Q X69 v0 v1 kk nn S → X69 v0 v1 kk nn S) → X69 v0 v1 kk nn S
set_option maxRecDepth 20000 in
set_option maxHeartbeats 4000000 in
theorem TB_X0_init_69 {X : CX} {Q : HS → Prop} (C : Cx X cX0_init RX0 2 rm_X0_init) (E : ReV X rm_X0_init Q) (ht : (xh X).sig.returnType = none) (hn : (xh X).name = yX0_init.name) {X69 : Nat → Int32 → Nat → Nat → HS → Prop} (hX69 : ∀ (v0 : Nat) (v1 : Int32) (kk : Nat) (nn : Nat) (S : HS), X69 v0 v1 kk nn S → WS X 2 kk nn 69 [(0, .ref v0), (1, .int v1)] [] S) {v0 : Nat} {v1 : Int32} {kk : Nat} {nn : Nat} {S : HS} (h : B_X0_init_69 Q X69 v0 v1 kk nn S) : WS X 2 kk nn 69 [(0, .ref v0), (1, .int v1)] [] S := by
  refine r_iload_n (pc := 69) C dX0_init_69 1 rfl ?_
  refine r_aload_n (pc := 70) C dX0_init_70 0 rfl ?_
  obtain ⟨o_v0, h⟩ := h
  obtain ⟨a1, ea1, h⟩ := h
  refine r_getr (pc := 71) C fL_X0_26 dX0_init_71 o_v0 ea1 ?_
  obtain ⟨o_a1, h⟩ := h
  refine r_alen16 (pc := 74) C dX0_init_74 o_a1 ?_
  refine r_icmp_ge (pc := 75) C (tgt := 97) dX0_init_75 (by decide) (fun c2 => ?_) (fun c2 => ?_)
  · have h := h.1 c2
    obtain ⟨hk, hk2, h⟩ := h
    exact r_vret (pc := 97) C E ht dX0_init_97 hk hk2 h
  · have h := h.2 c2
    refine r_aload_n (pc := 78) C dX0_init_78 0 rfl ?_
    obtain ⟨a3, ea3, h⟩ := h
    refine r_getr (pc := 79) C fL_X0_26 dX0_init_79 o_v0 ea3 ?_
    refine r_iload_n (pc := 82) C dX0_init_82 1 rfl ?_
    obtain ⟨hk, hk2, h⟩ := h
    refine r_new (pc := 83) C nc_X0_15 dX0_init_83 hk hk2 (fun a4 q12 => ?_)
    refine r_heap (fun S5 eS5 => ?_)
    have h := h a4 q12 S5 eS5
    have g13 := gr_of_new eS5 q12
    have o_a4 := ob_of_new eS5
    have o_a1 := gr_ob g13 o_a1
    have o_v0 := gr_ob g13 o_v0
    refine r_dup (pc := 86) C dX0_init_86 rfl ?_
    obtain ⟨hk, hk2, h⟩ := h
    refine r_callNv (pc := 87) C (rest := [.ref a4, .int v1, .ref a3]) (a := a4) [] yI_X2_init (List.mem_of_getElem? (i := 6) rfl) (c_X2_init h) dX0_init_87 rfl rfl (Nat.le_of_ble_eq_true rfl) ⟨by decide, by decide⟩ ⟨hk, hk2⟩ (fun S6 h g7 => ?_)
    have h := h g7
    have o_a1 := gr_ob g7 o_a1
    have o_a4 := gr_ob g7 o_a4
    have o_v0 := gr_ob g7 o_v0
    obtain ⟨o_a3, h⟩ := h
    obtain ⟨i9, h⟩ := h
    refine r_aast16 (pc := 90) C dX0_init_90 o_a3 i9 o_a4 ?_
    refine r_heap (fun S10 eS10 => ?_)
    have h := h S10 eS10
    have o_a1 := ob_R eS10 o_a1
    have o_a3 := ob_R eS10 o_a3
    have o_a4 := ob_R eS10 o_a4
    have o_v0 := ob_R eS10 o_v0
    obtain ⟨x11, ex11⟩ : ∃ z : Int32, z = v1 + (1 : Int32) := ⟨_, rfl⟩
    have h := h x11 ex11
    refine r_iinc (pc := 91) C (v := x11) (lv' := [(1, .int x11), (0, .ref v0)]) dX0_init_91 1 rfl ex11.symm (by decide) rfl ?_
    refine r_goto (pc := 94) C (tgt := 69) dX0_init_94 (by decide) ?_
    exact r_sub [1, 0] rfl (hX69 v0 x11 (kk + 1 + 1) (nn + 3 + 5) S10 h)
theorem T_X0_init_69 {X : CX} {Q : HS → Prop} (C : Cx X cX0_init RX0 2 rm_X0_init) (E : ReV X rm_X0_init Q) (ht : (xh X).sig.returnType = none) (hn : (xh X).name = yX0_init.name) {v0 : Nat} {v1 : Int32} {kk : Nat} {nn : Nat} {S : HS} (h : P_X0_init_69 Q v0 v1 kk nn S) : WS X 2 kk nn 69 [(0, .ref v0), (1, .int v1)] [] S :=
  h (fun v0 v1 kk nn S => WS X 2 kk nn 69 [(0, .ref v0), (1, .int v1)] [] S) (fun v0 v1 kk nn S hh => TB_X0_init_69 C E ht hn (fun v0 v1 kk nn S z => z) hh)
def B_X0_init_39 (Q : HS → Prop) (X39 : Nat → Int32 → Nat → Nat → HS → Prop) (v0 : Nat) (v1 : Int32) (kk : Nat) (nn : Nat) (S : HS) : Prop := ob S v0 0 ∧ (∃ a1 : Nat, fR S v0 5 = some a1 ∧ (ob S a1 16 ∧ ((((nI (hN S a1)) ≤ v1) → (P_X0_init_69 Q v0 (0 : Int32) kk nn S)) ∧ ((¬ (nI (hN S a1)) ≤ v1) → (∃ a3 : Nat, fR S v0 5 = some a3 ∧ (kk + 1 ≤ rm_X0_init.cells ∧ nn + 3 ≤ rm_X0_init.slots ∧ ∀ a4 : Nat, a4 ∉ hL S → ∀ S5 : HS, S5 = nW S a4 2 0 → (kk + 1 + 1 ≤ rm_X0_init.cells ∧ nn + 3 + 5 ≤ rm_X0_init.slots ∧ (P_X2_init a4 (fun S6 => Gr S5 S6 → (ob S6 a3 16 ∧ (vp_in v1 (hN S6 a3) ∧ (∀ S10 : HS, S10 = sR S6 a3 v1.toNatClampNeg (some a4) → (∀ x11 : Int32, x11 = v1 + (1 : Int32) → (X39 v0 x11 (kk + 1 + 1) (nn + 3 + 5) S10)))))) S5))))))))
def P_X0_init_39 (Q : HS → Prop) (v0 : Nat) (v1 : Int32) (kk : Nat) (nn : Nat) (S : HS) : Prop := ∀ X39 : Nat → Int32 → Nat → Nat → HS → Prop, (∀ (v0 : Nat) (v1 : Int32) (kk : Nat) (nn : Nat) (S : HS), B_X0_init_39 Q X39 v0 v1 kk nn S → X39 v0 v1 kk nn S) → X39 v0 v1 kk nn S
set_option maxRecDepth 20000 in
set_option maxHeartbeats 4000000 in
theorem TB_X0_init_39 {X : CX} {Q : HS → Prop} (C : Cx X cX0_init RX0 2 rm_X0_init) (E : ReV X rm_X0_init Q) (ht : (xh X).sig.returnType = none) (hn : (xh X).name = yX0_init.name) {X39 : Nat → Int32 → Nat → Nat → HS → Prop} (hX39 : ∀ (v0 : Nat) (v1 : Int32) (kk : Nat) (nn : Nat) (S : HS), X39 v0 v1 kk nn S → WS X 2 kk nn 39 [(0, .ref v0), (1, .int v1)] [] S) {v0 : Nat} {v1 : Int32} {kk : Nat} {nn : Nat} {S : HS} (h : B_X0_init_39 Q X39 v0 v1 kk nn S) : WS X 2 kk nn 39 [(0, .ref v0), (1, .int v1)] [] S := by
  refine r_iload_n (pc := 39) C dX0_init_39 1 rfl ?_
  refine r_aload_n (pc := 40) C dX0_init_40 0 rfl ?_
  obtain ⟨o_v0, h⟩ := h
  obtain ⟨a1, ea1, h⟩ := h
  refine r_getr (pc := 41) C fL_X0_22 dX0_init_41 o_v0 ea1 ?_
  obtain ⟨o_a1, h⟩ := h
  refine r_alen16 (pc := 44) C dX0_init_44 o_a1 ?_
  refine r_icmp_ge (pc := 45) C (tgt := 67) dX0_init_45 (by decide) (fun c2 => ?_) (fun c2 => ?_)
  · have h := h.1 c2
    refine r_iconst (pc := 67) C (v := (0 : Int32)) dX0_init_67 (by decide) ?_
    refine r_istore_n (pc := 68) C dX0_init_68 rfl (by decide) (lv' := [(1, .int (0 : Int32)), (0, .ref v0)]) rfl ?_
    exact r_sub [1, 0] rfl (T_X0_init_69 C E ht hn h)
  · have h := h.2 c2
    refine r_aload_n (pc := 48) C dX0_init_48 0 rfl ?_
    obtain ⟨a3, ea3, h⟩ := h
    refine r_getr (pc := 49) C fL_X0_22 dX0_init_49 o_v0 ea3 ?_
    refine r_iload_n (pc := 52) C dX0_init_52 1 rfl ?_
    obtain ⟨hk, hk2, h⟩ := h
    refine r_new (pc := 53) C nc_X0_15 dX0_init_53 hk hk2 (fun a4 q12 => ?_)
    refine r_heap (fun S5 eS5 => ?_)
    have h := h a4 q12 S5 eS5
    have g13 := gr_of_new eS5 q12
    have o_a4 := ob_of_new eS5
    have o_a1 := gr_ob g13 o_a1
    have o_v0 := gr_ob g13 o_v0
    refine r_dup (pc := 56) C dX0_init_56 rfl ?_
    obtain ⟨hk, hk2, h⟩ := h
    refine r_callNv (pc := 57) C (rest := [.ref a4, .int v1, .ref a3]) (a := a4) [] yI_X2_init (List.mem_of_getElem? (i := 6) rfl) (c_X2_init h) dX0_init_57 rfl rfl (Nat.le_of_ble_eq_true rfl) ⟨by decide, by decide⟩ ⟨hk, hk2⟩ (fun S6 h g7 => ?_)
    have h := h g7
    have o_a1 := gr_ob g7 o_a1
    have o_a4 := gr_ob g7 o_a4
    have o_v0 := gr_ob g7 o_v0
    obtain ⟨o_a3, h⟩ := h
    obtain ⟨i9, h⟩ := h
    refine r_aast16 (pc := 60) C dX0_init_60 o_a3 i9 o_a4 ?_
    refine r_heap (fun S10 eS10 => ?_)
    have h := h S10 eS10
    have o_a1 := ob_R eS10 o_a1
    have o_a3 := ob_R eS10 o_a3
    have o_a4 := ob_R eS10 o_a4
    have o_v0 := ob_R eS10 o_v0
    obtain ⟨x11, ex11⟩ : ∃ z : Int32, z = v1 + (1 : Int32) := ⟨_, rfl⟩
    have h := h x11 ex11
    refine r_iinc (pc := 61) C (v := x11) (lv' := [(1, .int x11), (0, .ref v0)]) dX0_init_61 1 rfl ex11.symm (by decide) rfl ?_
    refine r_goto (pc := 64) C (tgt := 39) dX0_init_64 (by decide) ?_
    exact r_sub [1, 0] rfl (hX39 v0 x11 (kk + 1 + 1) (nn + 3 + 5) S10 h)
theorem T_X0_init_39 {X : CX} {Q : HS → Prop} (C : Cx X cX0_init RX0 2 rm_X0_init) (E : ReV X rm_X0_init Q) (ht : (xh X).sig.returnType = none) (hn : (xh X).name = yX0_init.name) {v0 : Nat} {v1 : Int32} {kk : Nat} {nn : Nat} {S : HS} (h : P_X0_init_39 Q v0 v1 kk nn S) : WS X 2 kk nn 39 [(0, .ref v0), (1, .int v1)] [] S :=
  h (fun v0 v1 kk nn S => WS X 2 kk nn 39 [(0, .ref v0), (1, .int v1)] [] S) (fun v0 v1 kk nn S hh => TB_X0_init_39 C E ht hn (fun v0 v1 kk nn S z => z) hh)
def P_X0_init_0 (Q : HS → Prop) (v0 : Nat) (kk : Nat) (nn : Nat) (S : HS) : Prop := ob S v0 0 ∧ (∀ S1 : HS, S1 = sI S v0 0 (-1 : Int32) → (kk + 1 ≤ rm_X0_init.cells ∧ nn + 3 ≤ rm_X0_init.slots ∧ ∀ a2 : Nat, a2 ∉ hL S1 → ∀ S3 : HS, S3 = nW S1 a2 2 0 → (kk + 1 + 1 ≤ rm_X0_init.cells ∧ nn + 3 + 5 ≤ rm_X0_init.slots ∧ (P_X2_init a2 (fun S4 => Gr S3 S4 → (∀ S7 : HS, S7 = sR S4 v0 4 (some a2) → (kk + 1 + 1 + 1 ≤ rm_X0_init.cells ∧ nn + 3 + 5 + 16 ≤ rm_X0_init.slots ∧ ∀ a8 : Nat, a8 ∉ hL S7 → ∀ S9 : HS, S9 = nW S7 a8 16 16 → (∀ S10 : HS, S10 = sR S9 v0 5 (some a8) → (kk + 1 + 1 + 1 + 1 ≤ rm_X0_init.cells ∧ nn + 3 + 5 + 16 + 3 ≤ rm_X0_init.slots ∧ ∀ a11 : Nat, a11 ∉ hL S10 → ∀ S12 : HS, S12 = nW S10 a11 16 3 → (∀ S13 : HS, S13 = sR S12 v0 6 (some a11) → (P_X0_init_39 Q v0 (0 : Int32) (kk + 1 + 1 + 1 + 1) (nn + 3 + 5 + 16 + 3) S13))))))) S3))))
set_option maxRecDepth 20000 in
set_option maxHeartbeats 4000000 in
theorem T_X0_init_0 {X : CX} {Q : HS → Prop} (C : Cx X cX0_init RX0 2 rm_X0_init) (E : ReV X rm_X0_init Q) (ht : (xh X).sig.returnType = none) (hn : (xh X).name = yX0_init.name) {v0 : Nat} {kk : Nat} {nn : Nat} {S : HS} (h : P_X0_init_0 Q v0 kk nn S) : WS X 2 kk nn 0 [(0, .ref v0)] [] S := by
  refine r_aload_n (pc := 0) C dX0_init_0 0 rfl ?_
  refine r_objinit (pc := 1) C g_336 dX0_init_1 (by decide) (Nat.le_of_ble_eq_true rfl) ?_
  refine r_aload_n (pc := 4) C dX0_init_4 0 rfl ?_
  refine r_iconst (pc := 5) C (v := (-1 : Int32)) dX0_init_5 (by decide) ?_
  obtain ⟨o_v0, h⟩ := h
  refine r_puti (pc := 6) C pfL_X0_9 dX0_init_6 o_v0 ?_
  refine r_heap (fun S1 eS1 => ?_)
  have h := h S1 eS1
  have o_v0 := ob_I eS1 o_v0
  refine r_aload_n (pc := 9) C dX0_init_9 0 rfl ?_
  obtain ⟨hk, hk2, h⟩ := h
  refine r_new (pc := 10) C nc_X0_15 dX0_init_10 hk hk2 (fun a2 q18 => ?_)
  refine r_heap (fun S3 eS3 => ?_)
  have h := h a2 q18 S3 eS3
  have g19 := gr_of_new eS3 q18
  have o_a2 := ob_of_new eS3
  have o_v0 := gr_ob g19 o_v0
  refine r_dup (pc := 13) C dX0_init_13 rfl ?_
  obtain ⟨hk, hk2, h⟩ := h
  refine r_callNv (pc := 14) C (rest := [.ref a2, .ref v0]) (a := a2) [] yI_X2_init (List.mem_of_getElem? (i := 6) rfl) (c_X2_init h) dX0_init_14 rfl rfl (Nat.le_of_ble_eq_true rfl) ⟨by decide, by decide⟩ ⟨hk, hk2⟩ (fun S4 h g5 => ?_)
  have h := h g5
  have o_a2 := gr_ob g5 o_a2
  have o_v0 := gr_ob g5 o_v0
  refine r_putFr (pc := 17) C pfL_X0_18 hn dX0_init_17 o_v0 ?_
  refine r_heap (fun S7 eS7 => ?_)
  have h := h S7 eS7
  have o_a2 := ob_R eS7 o_a2
  have o_v0 := ob_R eS7 o_v0
  refine r_aload_n (pc := 20) C dX0_init_20 0 rfl ?_
  refine r_bipush (pc := 21) C (v := (16 : Int32)) dX0_init_21 (by decide) ?_
  obtain ⟨hk, hk2, h⟩ := h
  refine r_newa16 (pc := 23) C (N := 16) g_337 dX0_init_23 (by decide) (by decide) (by decide) hk hk2 (fun a8 q16 => ?_)
  refine r_heap (fun S9 eS9 => ?_)
  have h := h a8 q16 S9 eS9
  have g17 := gr_of_new eS9 q16
  have o_a8 := ob_of_new eS9
  have o_a2 := gr_ob g17 o_a2
  have o_v0 := gr_ob g17 o_v0
  refine r_putFr (pc := 26) C pfL_X0_22 hn dX0_init_26 o_v0 ?_
  refine r_heap (fun S10 eS10 => ?_)
  have h := h S10 eS10
  have o_a2 := ob_R eS10 o_a2
  have o_a8 := ob_R eS10 o_a8
  have o_v0 := ob_R eS10 o_v0
  refine r_aload_n (pc := 29) C dX0_init_29 0 rfl ?_
  refine r_iconst (pc := 30) C (v := (3 : Int32)) dX0_init_30 (by decide) ?_
  obtain ⟨hk, hk2, h⟩ := h
  refine r_newa16 (pc := 31) C (N := 3) g_337 dX0_init_31 (by decide) (by decide) (by decide) hk hk2 (fun a11 q14 => ?_)
  refine r_heap (fun S12 eS12 => ?_)
  have h := h a11 q14 S12 eS12
  have g15 := gr_of_new eS12 q14
  have o_a11 := ob_of_new eS12
  have o_a2 := gr_ob g15 o_a2
  have o_a8 := gr_ob g15 o_a8
  have o_v0 := gr_ob g15 o_v0
  refine r_putFr (pc := 34) C pfL_X0_26 hn dX0_init_34 o_v0 ?_
  refine r_heap (fun S13 eS13 => ?_)
  have h := h S13 eS13
  have o_a11 := ob_R eS13 o_a11
  have o_a2 := ob_R eS13 o_a2
  have o_a8 := ob_R eS13 o_a8
  have o_v0 := ob_R eS13 o_v0
  refine r_iconst (pc := 37) C (v := (0 : Int32)) dX0_init_37 (by decide) ?_
  refine r_istore_n (pc := 38) C dX0_init_38 rfl (by decide) (lv' := [(1, .int (0 : Int32)), (0, .ref v0)]) rfl ?_
  exact r_sub [1, 0] rfl (T_X0_init_39 C E ht hn h)
def P_X0_init (v0 : Nat) (Q : HS → Prop) (S : HS) : Prop := P_X0_init_0 Q v0 0 0 S
theorem c_X0_init {l : Launch} {Ee : EE} {S : HS} {v0 : Nat} {Q : HS → Prop} (h : P_X0_init v0 Q S) : MV l yX0_init cX0_init 2 none rm_X0_init Ee S [.ref v0] Q :=
  openV (by decide) (Nat.le_of_ble_eq_true rfl) (fun X C E ht hn hE hl => by subst hE; exact r_sub [0] rfl (T_X0_init_0 C E ht hn h))
def rm_X0_isOn : Room := { frames := 0, cells := 0, slots := 0, locals := 0 }
def P_X0_isOn_0 (Q : Int32 → HS → Prop) (v0 : Nat) (S : HS) : Prop := ob S v0 0 ∧ (∀ x1 : Int32, x1 = fI S v0 0 → (((x1 = (-1 : Int32)) → (Q (0 : Int32) S)) ∧ ((¬ x1 = (-1 : Int32)) → (Q (1 : Int32) S))))
set_option maxRecDepth 20000 in
set_option maxHeartbeats 4000000 in
theorem T_X0_isOn_0 {X : CX} {Q : Int32 → HS → Prop} (C : Cx X cX0_isOn RX0 1 rm_X0_isOn) (E : ReI X rm_X0_isOn (fun r S => bl r ∧ Q r S)) (ht : (xh X).sig.returnType = (some .boolean)) (hn : (xh X).name = yX0_isOn.name) {v0 : Nat} {S : HS} (h : P_X0_isOn_0 Q v0 S) : WS X 1 0 0 0 [(0, .ref v0)] [] S := by
  refine r_aload_n (pc := 0) C dX0_isOn_0 0 rfl ?_
  obtain ⟨o_v0, h⟩ := h
  refine r_geti (pc := 1) C fL_X0_9 dX0_isOn_1 o_v0 ?_
  refine r_topi (fun x1 ex1 => ?_)
  have h := h x1 ex1
  refine r_iconst (pc := 4) C (v := (-1 : Int32)) dX0_isOn_4 (by decide) ?_
  refine r_icmp_eq (pc := 5) C (tgt := 12) dX0_isOn_5 (by decide) (fun c2 => ?_) (fun c2 => ?_)
  · have h := h.1 c2
    refine r_iconst (pc := 12) C (v := (0 : Int32)) dX0_isOn_12 (by decide) ?_
    exact r_zret (pc := 13) C E ht dX0_isOn_13 (by decide) (by decide) (Or.inl rfl) h
  · have h := h.2 c2
    refine r_iconst (pc := 8) C (v := (1 : Int32)) dX0_isOn_8 (by decide) ?_
    refine r_goto (pc := 9) C (tgt := 13) dX0_isOn_9 (by decide) ?_
    exact r_zret (pc := 13) C E ht dX0_isOn_13 (by decide) (by decide) (Or.inr rfl) h
def P_X0_isOn (v0 : Nat) (Q : Int32 → HS → Prop) (S : HS) : Prop := P_X0_isOn_0 Q v0 S
theorem c_X0_isOn {l : Launch} {Ee : EE} {S : HS} {v0 : Nat} {Q : Int32 → HS → Prop} (h : P_X0_isOn v0 Q S) : MI l yX0_isOn cX0_isOn 1 (some .boolean) rm_X0_isOn Ee S [.ref v0] (fun r S => bl r ∧ Q r S) :=
  openI (by decide) (Nat.le_of_ble_eq_true rfl) (fun X C E ht hn hE hl => by subst hE; exact r_sub [0] rfl (T_X0_isOn_0 C E ht hn h))
def rm_X2_copy : Room := { frames := 0, cells := 0, slots := 0, locals := 0 }
def B_X2_copy_18 (Q : HS → Prop) (X18 : Nat → Nat → Int32 → HS → Prop) (v0 : Nat) (v1 : Nat) (v2 : Int32) (S : HS) : Prop := (((5 : Int32) ≤ v2) → (Q S)) ∧ ((¬ (5 : Int32) ≤ v2) → (ob S v0 2 ∧ (∃ a2 : Nat, fR S v0 2 = some a2 ∧ (ob S v1 2 ∧ (∃ a3 : Nat, fR S v1 2 = some a3 ∧ (ob S a3 14 ∧ (vp_in v2 (hN S a3) ∧ ∀ x5 : Int64, x5 = fJ S a3 v2.toNatClampNeg → (ob S a2 14 ∧ (vp_in v2 (hN S a2) ∧ (∀ S7 : HS, S7 = sJ S a2 v2.toNatClampNeg x5 → (∀ x8 : Int32, x8 = v2 + (1 : Int32) → (X18 v0 v1 x8 S7))))))))))))
def P_X2_copy_18 (Q : HS → Prop) (v0 : Nat) (v1 : Nat) (v2 : Int32) (S : HS) : Prop := ∀ X18 : Nat → Nat → Int32 → HS → Prop, (∀ (v0 : Nat) (v1 : Nat) (v2 : Int32) (S : HS), B_X2_copy_18 Q X18 v0 v1 v2 S → X18 v0 v1 v2 S) → X18 v0 v1 v2 S
set_option maxRecDepth 20000 in
set_option maxHeartbeats 4000000 in
theorem TB_X2_copy_18 {X : CX} {Q : HS → Prop} (C : Cx X cX2_copy RX2 3 rm_X2_copy) (E : ReV X rm_X2_copy Q) (ht : (xh X).sig.returnType = none) (hn : (xh X).name = yX2_copy.name) {X18 : Nat → Nat → Int32 → HS → Prop} (hX18 : ∀ (v0 : Nat) (v1 : Nat) (v2 : Int32) (S : HS), X18 v0 v1 v2 S → WS X 3 0 0 18 [(0, .ref v0), (1, .ref v1), (2, .int v2)] [] S) {v0 : Nat} {v1 : Nat} {v2 : Int32} {S : HS} (h : B_X2_copy_18 Q X18 v0 v1 v2 S) : WS X 3 0 0 18 [(0, .ref v0), (1, .ref v1), (2, .int v2)] [] S := by
  refine r_iload_n (pc := 18) C dX2_copy_18 2 rfl ?_
  refine r_iconst (pc := 19) C (v := (5 : Int32)) dX2_copy_19 (by decide) ?_
  refine r_icmp_ge (pc := 20) C (tgt := 41) dX2_copy_20 (by decide) (fun c1 => ?_) (fun c1 => ?_)
  · have h := h.1 c1
    exact r_vret (pc := 41) C E ht dX2_copy_41 (by decide) (by decide) h
  · have h := h.2 c1
    refine r_aload_n (pc := 23) C dX2_copy_23 0 rfl ?_
    obtain ⟨o_v0, h⟩ := h
    obtain ⟨a2, ea2, h⟩ := h
    refine r_getr (pc := 24) C fL_X2_9 dX2_copy_24 o_v0 ea2 ?_
    refine r_iload_n (pc := 27) C dX2_copy_27 2 rfl ?_
    refine r_aload_n (pc := 28) C dX2_copy_28 1 rfl ?_
    obtain ⟨o_v1, h⟩ := h
    obtain ⟨a3, ea3, h⟩ := h
    refine r_getr (pc := 29) C fL_X2_9 dX2_copy_29 o_v1 ea3 ?_
    refine r_iload_n (pc := 32) C dX2_copy_32 2 rfl ?_
    obtain ⟨o_a3, h⟩ := h
    obtain ⟨i4, h⟩ := h
    refine r_lald (pc := 33) C dX2_copy_33 o_a3 i4 ?_
    refine r_topl (fun x5 ex5 => ?_)
    have h := h x5 ex5
    obtain ⟨o_a2, h⟩ := h
    obtain ⟨i6, h⟩ := h
    refine r_last (pc := 34) C dX2_copy_34 o_a2 i6 ?_
    refine r_heap (fun S7 eS7 => ?_)
    have h := h S7 eS7
    have o_a2 := ob_J eS7 o_a2
    have o_a3 := ob_J eS7 o_a3
    have o_v0 := ob_J eS7 o_v0
    have o_v1 := ob_J eS7 o_v1
    obtain ⟨x8, ex8⟩ : ∃ z : Int32, z = v2 + (1 : Int32) := ⟨_, rfl⟩
    have h := h x8 ex8
    refine r_iinc (pc := 35) C (v := x8) (lv' := [(2, .int x8), (0, .ref v0), (1, .ref v1)]) dX2_copy_35 2 rfl ex8.symm (by decide) rfl ?_
    refine r_goto (pc := 38) C (tgt := 18) dX2_copy_38 (by decide) ?_
    exact r_sub [1, 2, 0] rfl (hX18 v0 v1 x8 S7 h)
theorem T_X2_copy_18 {X : CX} {Q : HS → Prop} (C : Cx X cX2_copy RX2 3 rm_X2_copy) (E : ReV X rm_X2_copy Q) (ht : (xh X).sig.returnType = none) (hn : (xh X).name = yX2_copy.name) {v0 : Nat} {v1 : Nat} {v2 : Int32} {S : HS} (h : P_X2_copy_18 Q v0 v1 v2 S) : WS X 3 0 0 18 [(0, .ref v0), (1, .ref v1), (2, .int v2)] [] S :=
  h (fun v0 v1 v2 S => WS X 3 0 0 18 [(0, .ref v0), (1, .ref v1), (2, .int v2)] [] S) (fun v0 v1 v2 S hh => TB_X2_copy_18 C E ht hn (fun v0 v1 v2 S z => z) hh)
def P_X2_copy_0 (Q : HS → Prop) (v0 : Nat) (v1 : Nat) (S : HS) : Prop := ob S v1 2 ∧ (∀ x1 : Int32, x1 = fI S v1 0 → (ob S v0 2 ∧ (∀ S2 : HS, S2 = sI S v0 0 x1 → (∀ x3 : Int32, x3 = fI S2 v1 1 → (∀ S4 : HS, S4 = sI S2 v0 1 x3 → (P_X2_copy_18 Q v0 v1 (0 : Int32) S4))))))
set_option maxRecDepth 20000 in
set_option maxHeartbeats 4000000 in
theorem T_X2_copy_0 {X : CX} {Q : HS → Prop} (C : Cx X cX2_copy RX2 3 rm_X2_copy) (E : ReV X rm_X2_copy Q) (ht : (xh X).sig.returnType = none) (hn : (xh X).name = yX2_copy.name) {v0 : Nat} {v1 : Nat} {S : HS} (h : P_X2_copy_0 Q v0 v1 S) : WS X 3 0 0 0 [(0, .ref v0), (1, .ref v1)] [] S := by
  refine r_aload_n (pc := 0) C dX2_copy_0 0 rfl ?_
  refine r_aload_n (pc := 1) C dX2_copy_1 1 rfl ?_
  obtain ⟨o_v1, h⟩ := h
  refine r_geti (pc := 2) C fL_X2_15 dX2_copy_2 o_v1 ?_
  refine r_topi (fun x1 ex1 => ?_)
  have h := h x1 ex1
  obtain ⟨o_v0, h⟩ := h
  refine r_puti (pc := 5) C pfL_X2_15 dX2_copy_5 o_v0 ?_
  refine r_heap (fun S2 eS2 => ?_)
  have h := h S2 eS2
  have o_v0 := ob_I eS2 o_v0
  have o_v1 := ob_I eS2 o_v1
  refine r_aload_n (pc := 8) C dX2_copy_8 0 rfl ?_
  refine r_aload_n (pc := 9) C dX2_copy_9 1 rfl ?_
  refine r_geti (pc := 10) C fL_X2_19 dX2_copy_10 o_v1 ?_
  refine r_topi (fun x3 ex3 => ?_)
  have h := h x3 ex3
  refine r_puti (pc := 13) C pfL_X2_19 dX2_copy_13 o_v0 ?_
  refine r_heap (fun S4 eS4 => ?_)
  have h := h S4 eS4
  have o_v0 := ob_I eS4 o_v0
  have o_v1 := ob_I eS4 o_v1
  refine r_iconst (pc := 16) C (v := (0 : Int32)) dX2_copy_16 (by decide) ?_
  refine r_istore_n (pc := 17) C dX2_copy_17 rfl (by decide) (lv' := [(2, .int (0 : Int32)), (0, .ref v0), (1, .ref v1)]) rfl ?_
  exact r_sub [1, 2, 0] rfl (T_X2_copy_18 C E ht hn h)
def P_X2_copy (v0 : Nat) (v1 : Nat) (Q : HS → Prop) (S : HS) : Prop := P_X2_copy_0 Q v0 v1 S
theorem c_X2_copy {l : Launch} {Ee : EE} {S : HS} {v0 : Nat} {v1 : Nat} {Q : HS → Prop} (h : P_X2_copy v0 v1 Q S) : MV l yX2_copy cX2_copy 3 none rm_X2_copy Ee S [.ref v0, .ref v1] Q :=
  openV (by decide) (Nat.le_of_ble_eq_true rfl) (fun X C E ht hn hE hl => by subst hE; exact r_sub [0, 1] rfl (T_X2_copy_0 C E ht hn h))
def rm_X0_keepForUndo : Room := { frames := 1, cells := 0, slots := 0, locals := 22 }
def P_X0_keepForUndo_58 (Q : HS → Prop) (v0 : Nat) (S : HS) : Prop := ob S v0 0 ∧ (∃ a1 : Nat, fR S v0 5 = some a1 ∧ (∀ x2 : Int32, x2 = fI S v0 2 → (ob S a1 16 ∧ (vp_in x2 (hN S a1) ∧ ∃ a4 : Nat, fR S a1 x2.toNatClampNeg = some a4 ∧ (∃ a5 : Nat, fR S v0 4 = some a5 ∧ (ob S a4 2 ∧ (P_X2_copy a4 a5 (fun S6 => Gr S S6 → (∀ x9 : Int32, x9 = fI S6 v0 2 → (∀ x10 : Int32, x10 = x9 + (1 : Int32) → (∀ S11 : HS, S11 = sI S6 v0 2 x10 → (Q S11))))) S)))))))
set_option maxRecDepth 20000 in
set_option maxHeartbeats 4000000 in
theorem T_X0_keepForUndo_58 {X : CX} {Q : HS → Prop} (C : Cx X cX0_keepForUndo RX0 3 rm_X0_keepForUndo) (E : ReV X rm_X0_keepForUndo Q) (ht : (xh X).sig.returnType = none) (hn : (xh X).name = yX0_keepForUndo.name) {v0 : Nat} {S : HS} (h : P_X0_keepForUndo_58 Q v0 S) : WS X 3 0 0 58 [(0, .ref v0)] [] S := by
  refine r_aload_n (pc := 58) C dX0_keepForUndo_58 0 rfl ?_
  obtain ⟨o_v0, h⟩ := h
  obtain ⟨a1, ea1, h⟩ := h
  refine r_getr (pc := 59) C fL_X0_22 dX0_keepForUndo_59 o_v0 ea1 ?_
  refine r_aload_n (pc := 62) C dX0_keepForUndo_62 0 rfl ?_
  refine r_geti (pc := 63) C fL_X0_29 dX0_keepForUndo_63 o_v0 ?_
  refine r_topi (fun x2 ex2 => ?_)
  have h := h x2 ex2
  obtain ⟨o_a1, h⟩ := h
  obtain ⟨i3, a4, ea4, h⟩ := h
  refine r_aald16 (pc := 66) C dX0_keepForUndo_66 o_a1 i3 ea4 ?_
  refine r_aload_n (pc := 67) C dX0_keepForUndo_67 0 rfl ?_
  obtain ⟨a5, ea5, h⟩ := h
  refine r_getr (pc := 68) C fL_X0_18 dX0_keepForUndo_68 o_v0 ea5 ?_
  obtain ⟨o_a4, h⟩ := h
  refine r_callVv0 (pc := 71) C (rest := []) (a := a4) o_a4 [.ref a5] yV_X2_copy g_990 (c_X2_copy h) dX0_keepForUndo_71 rfl rfl (Nat.le_of_ble_eq_true rfl) ⟨by decide, by decide⟩ ⟨by decide, by decide⟩ ⟨rfl, rfl⟩ (fun S6 h g7 => ?_)
  have h := h g7
  have o_a1 := gr_ob g7 o_a1
  have o_a4 := gr_ob g7 o_a4
  have o_v0 := gr_ob g7 o_v0
  refine r_aload_n (pc := 74) C dX0_keepForUndo_74 0 rfl ?_
  refine r_dup (pc := 75) C dX0_keepForUndo_75 rfl ?_
  refine r_geti (pc := 76) C fL_X0_29 dX0_keepForUndo_76 o_v0 ?_
  refine r_topi (fun x9 ex9 => ?_)
  have h := h x9 ex9
  refine r_iconst (pc := 79) C (v := (1 : Int32)) dX0_keepForUndo_79 (by decide) ?_
  refine r_iadd (pc := 80) C dX0_keepForUndo_80 ?_
  refine r_topi (fun x10 ex10 => ?_)
  have h := h x10 ex10
  refine r_puti (pc := 81) C pfL_X0_29 dX0_keepForUndo_81 o_v0 ?_
  refine r_heap (fun S11 eS11 => ?_)
  have h := h S11 eS11
  have o_a1 := ob_I eS11 o_a1
  have o_a4 := ob_I eS11 o_a4
  have o_v0 := ob_I eS11 o_v0
  exact r_vret (pc := 84) C E ht dX0_keepForUndo_84 (by decide) (by decide) h
def B_X0_keepForUndo_18 (Q : HS → Prop) (X18 : Nat → Nat → Int32 → HS → Prop) (v0 : Nat) (v1 : Nat) (v2 : Int32) (S : HS) : Prop := (((16 : Int32) ≤ v2) → (ob S v0 0 ∧ (∃ a2 : Nat, fR S v0 5 = some a2 ∧ (ob S a2 16 ∧ (ob S v1 2 ∧ (vp_in (15 : Int32) (hN S a2) ∧ (∀ S4 : HS, S4 = sR S a2 (15 : Int32).toNatClampNeg (some v1) → (∀ S5 : HS, S5 = sI S4 v0 2 (15 : Int32) → (P_X0_keepForUndo_58 Q v0 S5))))))))) ∧ ((¬ (16 : Int32) ≤ v2) → (ob S v0 0 ∧ (∃ a6 : Nat, fR S v0 5 = some a6 ∧ (∃ a7 : Nat, fR S v0 5 = some a7 ∧ (ob S a7 16 ∧ (vp_in v2 (hN S a7) ∧ ∃ a9 : Nat, fR S a7 v2.toNatClampNeg = some a9 ∧ (ob S a6 16 ∧ (ob S a9 2 ∧ (vp_in (v2 - (1 : Int32)) (hN S a6) ∧ (∀ S11 : HS, S11 = sR S a6 (v2 - (1 : Int32)).toNatClampNeg (some a9) → (∀ x12 : Int32, x12 = v2 + (1 : Int32) → (X18 v0 v1 x12 S11))))))))))))
def P_X0_keepForUndo_18 (Q : HS → Prop) (v0 : Nat) (v1 : Nat) (v2 : Int32) (S : HS) : Prop := ∀ X18 : Nat → Nat → Int32 → HS → Prop, (∀ (v0 : Nat) (v1 : Nat) (v2 : Int32) (S : HS), B_X0_keepForUndo_18 Q X18 v0 v1 v2 S → X18 v0 v1 v2 S) → X18 v0 v1 v2 S
set_option maxRecDepth 20000 in
set_option maxHeartbeats 4000000 in
theorem TB_X0_keepForUndo_18 {X : CX} {Q : HS → Prop} (C : Cx X cX0_keepForUndo RX0 3 rm_X0_keepForUndo) (E : ReV X rm_X0_keepForUndo Q) (ht : (xh X).sig.returnType = none) (hn : (xh X).name = yX0_keepForUndo.name) {X18 : Nat → Nat → Int32 → HS → Prop} (hX18 : ∀ (v0 : Nat) (v1 : Nat) (v2 : Int32) (S : HS), X18 v0 v1 v2 S → WS X 3 0 0 18 [(0, .ref v0), (1, .ref v1), (2, .int v2)] [] S) {v0 : Nat} {v1 : Nat} {v2 : Int32} {S : HS} (h : B_X0_keepForUndo_18 Q X18 v0 v1 v2 S) : WS X 3 0 0 18 [(0, .ref v0), (1, .ref v1), (2, .int v2)] [] S := by
  refine r_iload_n (pc := 18) C dX0_keepForUndo_18 2 rfl ?_
  refine r_bipush (pc := 19) C (v := (16 : Int32)) dX0_keepForUndo_19 (by decide) ?_
  refine r_icmp_ge (pc := 21) C (tgt := 44) dX0_keepForUndo_21 (by decide) (fun c1 => ?_) (fun c1 => ?_)
  · have h := h.1 c1
    refine r_aload_n (pc := 44) C dX0_keepForUndo_44 0 rfl ?_
    obtain ⟨o_v0, h⟩ := h
    obtain ⟨a2, ea2, h⟩ := h
    refine r_getr (pc := 45) C fL_X0_22 dX0_keepForUndo_45 o_v0 ea2 ?_
    refine r_bipush (pc := 48) C (v := (15 : Int32)) dX0_keepForUndo_48 (by decide) ?_
    refine r_aload_n (pc := 50) C dX0_keepForUndo_50 1 rfl ?_
    obtain ⟨o_a2, h⟩ := h
    obtain ⟨o_v1, h⟩ := h
    obtain ⟨i3, h⟩ := h
    refine r_aast16 (pc := 51) C dX0_keepForUndo_51 o_a2 i3 o_v1 ?_
    refine r_heap (fun S4 eS4 => ?_)
    have h := h S4 eS4
    have o_a2 := ob_R eS4 o_a2
    have o_v0 := ob_R eS4 o_v0
    have o_v1 := ob_R eS4 o_v1
    refine r_aload_n (pc := 52) C dX0_keepForUndo_52 0 rfl ?_
    refine r_bipush (pc := 53) C (v := (15 : Int32)) dX0_keepForUndo_53 (by decide) ?_
    refine r_puti (pc := 55) C pfL_X0_29 dX0_keepForUndo_55 o_v0 ?_
    refine r_heap (fun S5 eS5 => ?_)
    have h := h S5 eS5
    have o_a2 := ob_I eS5 o_a2
    have o_v0 := ob_I eS5 o_v0
    have o_v1 := ob_I eS5 o_v1
    exact r_sub [0] rfl (T_X0_keepForUndo_58 C E ht hn h)
  · have h := h.2 c1
    refine r_aload_n (pc := 24) C dX0_keepForUndo_24 0 rfl ?_
    obtain ⟨o_v0, h⟩ := h
    obtain ⟨a6, ea6, h⟩ := h
    refine r_getr (pc := 25) C fL_X0_22 dX0_keepForUndo_25 o_v0 ea6 ?_
    refine r_iload_n (pc := 28) C dX0_keepForUndo_28 2 rfl ?_
    refine r_iconst (pc := 29) C (v := (1 : Int32)) dX0_keepForUndo_29 (by decide) ?_
    refine r_isub (pc := 30) C dX0_keepForUndo_30 ?_
    refine r_aload_n (pc := 31) C dX0_keepForUndo_31 0 rfl ?_
    obtain ⟨a7, ea7, h⟩ := h
    refine r_getr (pc := 32) C fL_X0_22 dX0_keepForUndo_32 o_v0 ea7 ?_
    refine r_iload_n (pc := 35) C dX0_keepForUndo_35 2 rfl ?_
    obtain ⟨o_a7, h⟩ := h
    obtain ⟨i8, a9, ea9, h⟩ := h
    refine r_aald16 (pc := 36) C dX0_keepForUndo_36 o_a7 i8 ea9 ?_
    obtain ⟨o_a6, h⟩ := h
    obtain ⟨o_a9, h⟩ := h
    obtain ⟨i10, h⟩ := h
    refine r_aast16 (pc := 37) C dX0_keepForUndo_37 o_a6 i10 o_a9 ?_
    refine r_heap (fun S11 eS11 => ?_)
    have h := h S11 eS11
    have o_a6 := ob_R eS11 o_a6
    have o_a7 := ob_R eS11 o_a7
    have o_a9 := ob_R eS11 o_a9
    have o_v0 := ob_R eS11 o_v0
    obtain ⟨x12, ex12⟩ : ∃ z : Int32, z = v2 + (1 : Int32) := ⟨_, rfl⟩
    have h := h x12 ex12
    refine r_iinc (pc := 38) C (v := x12) (lv' := [(2, .int x12), (0, .ref v0), (1, .ref v1)]) dX0_keepForUndo_38 2 rfl ex12.symm (by decide) rfl ?_
    refine r_goto (pc := 41) C (tgt := 18) dX0_keepForUndo_41 (by decide) ?_
    exact r_sub [1, 2, 0] rfl (hX18 v0 v1 x12 S11 h)
theorem T_X0_keepForUndo_18 {X : CX} {Q : HS → Prop} (C : Cx X cX0_keepForUndo RX0 3 rm_X0_keepForUndo) (E : ReV X rm_X0_keepForUndo Q) (ht : (xh X).sig.returnType = none) (hn : (xh X).name = yX0_keepForUndo.name) {v0 : Nat} {v1 : Nat} {v2 : Int32} {S : HS} (h : P_X0_keepForUndo_18 Q v0 v1 v2 S) : WS X 3 0 0 18 [(0, .ref v0), (1, .ref v1), (2, .int v2)] [] S :=
  h (fun v0 v1 v2 S => WS X 3 0 0 18 [(0, .ref v0), (1, .ref v1), (2, .int v2)] [] S) (fun v0 v1 v2 S hh => TB_X0_keepForUndo_18 C E ht hn (fun v0 v1 v2 S z => z) hh)
def P_X0_keepForUndo_0 (Q : HS → Prop) (v0 : Nat) (S : HS) : Prop := ob S v0 0 ∧ (∀ x1 : Int32, x1 = fI S v0 2 → (((x1 < (16 : Int32)) → (P_X0_keepForUndo_58 Q v0 S)) ∧ ((¬ x1 < (16 : Int32)) → (∃ a3 : Nat, fR S v0 5 = some a3 ∧ (ob S a3 16 ∧ (vp_in (0 : Int32) (hN S a3) ∧ ∃ a5 : Nat, fR S a3 (0 : Int32).toNatClampNeg = some a5 ∧ (P_X0_keepForUndo_18 Q v0 a5 (1 : Int32) S)))))))
set_option maxRecDepth 20000 in
set_option maxHeartbeats 4000000 in
theorem T_X0_keepForUndo_0 {X : CX} {Q : HS → Prop} (C : Cx X cX0_keepForUndo RX0 3 rm_X0_keepForUndo) (E : ReV X rm_X0_keepForUndo Q) (ht : (xh X).sig.returnType = none) (hn : (xh X).name = yX0_keepForUndo.name) {v0 : Nat} {S : HS} (h : P_X0_keepForUndo_0 Q v0 S) : WS X 3 0 0 0 [(0, .ref v0)] [] S := by
  refine r_aload_n (pc := 0) C dX0_keepForUndo_0 0 rfl ?_
  obtain ⟨o_v0, h⟩ := h
  refine r_geti (pc := 1) C fL_X0_29 dX0_keepForUndo_1 o_v0 ?_
  refine r_topi (fun x1 ex1 => ?_)
  have h := h x1 ex1
  refine r_bipush (pc := 4) C (v := (16 : Int32)) dX0_keepForUndo_4 (by decide) ?_
  refine r_icmp_lt (pc := 6) C (tgt := 58) dX0_keepForUndo_6 (by decide) (fun c2 => ?_) (fun c2 => ?_)
  · have h := h.1 c2
    exact r_sub [0] rfl (T_X0_keepForUndo_58 C E ht hn h)
  · have h := h.2 c2
    refine r_aload_n (pc := 9) C dX0_keepForUndo_9 0 rfl ?_
    obtain ⟨a3, ea3, h⟩ := h
    refine r_getr (pc := 10) C fL_X0_22 dX0_keepForUndo_10 o_v0 ea3 ?_
    refine r_iconst (pc := 13) C (v := (0 : Int32)) dX0_keepForUndo_13 (by decide) ?_
    obtain ⟨o_a3, h⟩ := h
    obtain ⟨i4, a5, ea5, h⟩ := h
    refine r_aald16 (pc := 14) C dX0_keepForUndo_14 o_a3 i4 ea5 ?_
    refine r_astore_n (pc := 15) C dX0_keepForUndo_15 rfl (by decide) (lv' := [(1, .ref a5), (0, .ref v0)]) rfl ?_
    refine r_iconst (pc := 16) C (v := (1 : Int32)) dX0_keepForUndo_16 (by decide) ?_
    refine r_istore_n (pc := 17) C dX0_keepForUndo_17 rfl (by decide) (lv' := [(2, .int (1 : Int32)), (1, .ref a5), (0, .ref v0)]) rfl ?_
    exact r_sub [2, 1, 0] rfl (T_X0_keepForUndo_18 C E ht hn h)
def P_X0_keepForUndo (v0 : Nat) (Q : HS → Prop) (S : HS) : Prop := P_X0_keepForUndo_0 Q v0 S
theorem c_X0_keepForUndo {l : Launch} {Ee : EE} {S : HS} {v0 : Nat} {Q : HS → Prop} (h : P_X0_keepForUndo v0 Q S) : MV l yX0_keepForUndo cX0_keepForUndo 3 none rm_X0_keepForUndo Ee S [.ref v0] Q :=
  openV (by decide) (Nat.le_of_ble_eq_true rfl) (fun X C E ht hn hE hl => by subst hE; exact r_sub [0] rfl (T_X0_keepForUndo_0 C E ht hn h))
def rm_X0_rainsIn : Room := { frames := 0, cells := 0, slots := 0, locals := 0 }
def P_X0_rainsIn_0 (Q : Int32 → HS → Prop) (v0 : Nat) (v1 : Int32) (S : HS) : Prop := ((v1 < 0) → (Q (0 : Int32) S)) ∧ ((¬ v1 < 0) → ((((6 : Int32) ≤ v1) → (Q (0 : Int32) S)) ∧ ((¬ (6 : Int32) ≤ v1) → (ob S v0 0 ∧ (∀ x3 : Int32, x3 = fI S v0 1 → (((¬ ((x3 >>> (v1 &&& 31)) &&& (1 : Int32)) = (1 : Int32)) → (Q (0 : Int32) S)) ∧ ((((x3 >>> (v1 &&& 31)) &&& (1 : Int32)) = (1 : Int32)) → (Q (1 : Int32) S))))))))
set_option maxRecDepth 20000 in
set_option maxHeartbeats 4000000 in
theorem T_X0_rainsIn_0 {X : CX} {Q : Int32 → HS → Prop} (C : Cx X cX0_rainsIn RX0 2 rm_X0_rainsIn) (E : ReI X rm_X0_rainsIn (fun r S => bl r ∧ Q r S)) (ht : (xh X).sig.returnType = (some .boolean)) (hn : (xh X).name = yX0_rainsIn.name) {v0 : Nat} {v1 : Int32} {S : HS} (h : P_X0_rainsIn_0 Q v0 v1 S) : WS X 2 0 0 0 [(0, .ref v0), (1, .int v1)] [] S := by
  refine r_iload_n (pc := 0) C dX0_rainsIn_0 1 rfl ?_
  refine r_if_lt (pc := 1) C (tgt := 26) dX0_rainsIn_1 (by decide) (fun c1 => ?_) (fun c1 => ?_)
  · have h := h.1 c1
    refine r_iconst (pc := 26) C (v := (0 : Int32)) dX0_rainsIn_26 (by decide) ?_
    exact r_zret (pc := 27) C E ht dX0_rainsIn_27 (by decide) (by decide) (Or.inl rfl) h
  · have h := h.2 c1
    refine r_iload_n (pc := 4) C dX0_rainsIn_4 1 rfl ?_
    refine r_bipush (pc := 5) C (v := (6 : Int32)) dX0_rainsIn_5 (by decide) ?_
    refine r_icmp_ge (pc := 7) C (tgt := 26) dX0_rainsIn_7 (by decide) (fun c2 => ?_) (fun c2 => ?_)
    · have h := h.1 c2
      refine r_iconst (pc := 26) C (v := (0 : Int32)) dX0_rainsIn_26 (by decide) ?_
      exact r_zret (pc := 27) C E ht dX0_rainsIn_27 (by decide) (by decide) (Or.inl rfl) h
    · have h := h.2 c2
      refine r_aload_n (pc := 10) C dX0_rainsIn_10 0 rfl ?_
      obtain ⟨o_v0, h⟩ := h
      refine r_geti (pc := 11) C fL_X0_48 dX0_rainsIn_11 o_v0 ?_
      refine r_topi (fun x3 ex3 => ?_)
      have h := h x3 ex3
      refine r_iload_n (pc := 14) C dX0_rainsIn_14 1 rfl ?_
      refine r_ishr (pc := 15) C dX0_rainsIn_15 ?_
      refine r_iconst (pc := 16) C (v := (1 : Int32)) dX0_rainsIn_16 (by decide) ?_
      refine r_iand (pc := 17) C dX0_rainsIn_17 ?_
      refine r_iconst (pc := 18) C (v := (1 : Int32)) dX0_rainsIn_18 (by decide) ?_
      refine r_icmp_ne (pc := 19) C (tgt := 26) dX0_rainsIn_19 (by decide) (fun c4 => ?_) (fun c4 => ?_)
      · have h := h.1 c4
        refine r_iconst (pc := 26) C (v := (0 : Int32)) dX0_rainsIn_26 (by decide) ?_
        exact r_zret (pc := 27) C E ht dX0_rainsIn_27 (by decide) (by decide) (Or.inl rfl) h
      · have h := h.2 c4
        refine r_iconst (pc := 22) C (v := (1 : Int32)) dX0_rainsIn_22 (by decide) ?_
        refine r_goto (pc := 23) C (tgt := 27) dX0_rainsIn_23 (by decide) ?_
        exact r_zret (pc := 27) C E ht dX0_rainsIn_27 (by decide) (by decide) (Or.inr rfl) h
def P_X0_rainsIn (v0 : Nat) (v1 : Int32) (Q : Int32 → HS → Prop) (S : HS) : Prop := P_X0_rainsIn_0 Q v0 v1 S
theorem c_X0_rainsIn {l : Launch} {Ee : EE} {S : HS} {v0 : Nat} {v1 : Int32} {Q : Int32 → HS → Prop} (h : P_X0_rainsIn v0 v1 Q S) : MI l yX0_rainsIn cX0_rainsIn 2 (some .boolean) rm_X0_rainsIn Ee S [.ref v0, .int v1] (fun r S => bl r ∧ Q r S) :=
  openI (by decide) (Nat.le_of_ble_eq_true rfl) (fun X C E ht hn hE hl => by subst hE; exact r_sub [0, 1] rfl (T_X0_rainsIn_0 C E ht hn h))
def rm_X0_returnTo : Room := { frames := 1, cells := 0, slots := 0, locals := 22 }
def P_X0_returnTo_0 (Q : Int32 → HS → Prop) (v0 : Nat) (v1 : Int32) (S : HS) : Prop := ((v1 < 0) → (Q (0 : Int32) S)) ∧ ((¬ v1 < 0) → (ob S v0 0 ∧ (∀ x2 : Int32, x2 = fI S v0 3 → (((v1 < x2) → (∃ a4 : Nat, fR S v0 4 = some a4 ∧ (∃ a5 : Nat, fR S v0 6 = some a5 ∧ (ob S a5 16 ∧ (vp_in v1 (hN S a5) ∧ ∃ a7 : Nat, fR S a5 v1.toNatClampNeg = some a7 ∧ (ob S a4 2 ∧ (P_X2_copy a4 a7 (fun S8 => Gr S S8 → (∀ S11 : HS, S11 = sI S8 v0 2 (0 : Int32) → (Q (1 : Int32) S11))) S))))))) ∧ ((¬ v1 < x2) → (Q (0 : Int32) S))))))
set_option maxRecDepth 20000 in
set_option maxHeartbeats 4000000 in
theorem T_X0_returnTo_0 {X : CX} {Q : Int32 → HS → Prop} (C : Cx X cX0_returnTo RX0 2 rm_X0_returnTo) (E : ReI X rm_X0_returnTo (fun r S => bl r ∧ Q r S)) (ht : (xh X).sig.returnType = (some .boolean)) (hn : (xh X).name = yX0_returnTo.name) {v0 : Nat} {v1 : Int32} {S : HS} (h : P_X0_returnTo_0 Q v0 v1 S) : WS X 2 0 0 0 [(0, .ref v0), (1, .int v1)] [] S := by
  refine r_iload_n (pc := 0) C dX0_returnTo_0 1 rfl ?_
  refine r_if_lt (pc := 1) C (tgt := 12) dX0_returnTo_1 (by decide) (fun c1 => ?_) (fun c1 => ?_)
  · have h := h.1 c1
    refine r_iconst (pc := 12) C (v := (0 : Int32)) dX0_returnTo_12 (by decide) ?_
    exact r_zret (pc := 13) C E ht dX0_returnTo_13 (by decide) (by decide) (Or.inl rfl) h
  · have h := h.2 c1
    refine r_iload_n (pc := 4) C dX0_returnTo_4 1 rfl ?_
    refine r_aload_n (pc := 5) C dX0_returnTo_5 0 rfl ?_
    obtain ⟨o_v0, h⟩ := h
    refine r_geti (pc := 6) C fL_X0_32 dX0_returnTo_6 o_v0 ?_
    refine r_topi (fun x2 ex2 => ?_)
    have h := h x2 ex2
    refine r_icmp_lt (pc := 9) C (tgt := 14) dX0_returnTo_9 (by decide) (fun c3 => ?_) (fun c3 => ?_)
    · have h := h.1 c3
      refine r_aload_n (pc := 14) C dX0_returnTo_14 0 rfl ?_
      obtain ⟨a4, ea4, h⟩ := h
      refine r_getr (pc := 15) C fL_X0_18 dX0_returnTo_15 o_v0 ea4 ?_
      refine r_aload_n (pc := 18) C dX0_returnTo_18 0 rfl ?_
      obtain ⟨a5, ea5, h⟩ := h
      refine r_getr (pc := 19) C fL_X0_26 dX0_returnTo_19 o_v0 ea5 ?_
      refine r_iload_n (pc := 22) C dX0_returnTo_22 1 rfl ?_
      obtain ⟨o_a5, h⟩ := h
      obtain ⟨i6, a7, ea7, h⟩ := h
      refine r_aald16 (pc := 23) C dX0_returnTo_23 o_a5 i6 ea7 ?_
      obtain ⟨o_a4, h⟩ := h
      refine r_callVv0 (pc := 24) C (rest := []) (a := a4) o_a4 [.ref a7] yV_X2_copy g_990 (c_X2_copy h) dX0_returnTo_24 rfl rfl (Nat.le_of_ble_eq_true rfl) ⟨by decide, by decide⟩ ⟨by decide, by decide⟩ ⟨rfl, rfl⟩ (fun S8 h g9 => ?_)
      have h := h g9
      have o_a4 := gr_ob g9 o_a4
      have o_a5 := gr_ob g9 o_a5
      have o_v0 := gr_ob g9 o_v0
      refine r_aload_n (pc := 27) C dX0_returnTo_27 0 rfl ?_
      refine r_iconst (pc := 28) C (v := (0 : Int32)) dX0_returnTo_28 (by decide) ?_
      refine r_puti (pc := 29) C pfL_X0_29 dX0_returnTo_29 o_v0 ?_
      refine r_heap (fun S11 eS11 => ?_)
      have h := h S11 eS11
      have o_a4 := ob_I eS11 o_a4
      have o_a5 := ob_I eS11 o_a5
      have o_v0 := ob_I eS11 o_v0
      refine r_iconst (pc := 32) C (v := (1 : Int32)) dX0_returnTo_32 (by decide) ?_
      exact r_zret (pc := 33) C E ht dX0_returnTo_33 (by decide) (by decide) (Or.inr rfl) h
    · have h := h.2 c3
      refine r_iconst (pc := 12) C (v := (0 : Int32)) dX0_returnTo_12 (by decide) ?_
      exact r_zret (pc := 13) C E ht dX0_returnTo_13 (by decide) (by decide) (Or.inl rfl) h
def P_X0_returnTo (v0 : Nat) (v1 : Int32) (Q : Int32 → HS → Prop) (S : HS) : Prop := P_X0_returnTo_0 Q v0 v1 S
theorem c_X0_returnTo {l : Launch} {Ee : EE} {S : HS} {v0 : Nat} {v1 : Int32} {Q : Int32 → HS → Prop} (h : P_X0_returnTo v0 v1 Q S) : MI l yX0_returnTo cX0_returnTo 2 (some .boolean) rm_X0_returnTo Ee S [.ref v0, .int v1] (fun r S => bl r ∧ Q r S) :=
  openI (by decide) (Nat.le_of_ble_eq_true rfl) (fun X C E ht hn hE hl => by subst hE; exact r_sub [0, 1] rfl (T_X0_returnTo_0 C E ht hn h))
def rm_X0_setMark : Room := { frames := 1, cells := 0, slots := 0, locals := 22 }
def P_X0_setMark_0 (Q : Int32 → HS → Prop) (v0 : Nat) (S : HS) : Prop := ob S v0 0 ∧ (∀ x1 : Int32, x1 = fI S v0 3 → (((x1 < (3 : Int32)) → (∃ a3 : Nat, fR S v0 6 = some a3 ∧ (∀ x4 : Int32, x4 = fI S v0 3 → (ob S a3 16 ∧ (vp_in x4 (hN S a3) ∧ ∃ a6 : Nat, fR S a3 x4.toNatClampNeg = some a6 ∧ (∃ a7 : Nat, fR S v0 4 = some a7 ∧ (ob S a6 2 ∧ (P_X2_copy a6 a7 (fun S8 => Gr S S8 → (∀ x11 : Int32, x11 = fI S8 v0 3 → (∀ x12 : Int32, x12 = x11 + (1 : Int32) → (∀ S13 : HS, S13 = sI S8 v0 3 x12 → (∀ x14 : Int32, x14 = fI S13 v0 3 → (Q (x14 - (1 : Int32)) S13)))))) S)))))))) ∧ ((¬ x1 < (3 : Int32)) → (Q (-1 : Int32) S))))
set_option maxRecDepth 20000 in
set_option maxHeartbeats 4000000 in
theorem T_X0_setMark_0 {X : CX} {Q : Int32 → HS → Prop} (C : Cx X cX0_setMark RX0 1 rm_X0_setMark) (E : ReI X rm_X0_setMark Q) (ht : (xh X).sig.returnType = (some .int)) (hn : (xh X).name = yX0_setMark.name) {v0 : Nat} {S : HS} (h : P_X0_setMark_0 Q v0 S) : WS X 1 0 0 0 [(0, .ref v0)] [] S := by
  refine r_aload_n (pc := 0) C dX0_setMark_0 0 rfl ?_
  obtain ⟨o_v0, h⟩ := h
  refine r_geti (pc := 1) C fL_X0_32 dX0_setMark_1 o_v0 ?_
  refine r_topi (fun x1 ex1 => ?_)
  have h := h x1 ex1
  refine r_iconst (pc := 4) C (v := (3 : Int32)) dX0_setMark_4 (by decide) ?_
  refine r_icmp_lt (pc := 5) C (tgt := 10) dX0_setMark_5 (by decide) (fun c2 => ?_) (fun c2 => ?_)
  · have h := h.1 c2
    refine r_aload_n (pc := 10) C dX0_setMark_10 0 rfl ?_
    obtain ⟨a3, ea3, h⟩ := h
    refine r_getr (pc := 11) C fL_X0_26 dX0_setMark_11 o_v0 ea3 ?_
    refine r_aload_n (pc := 14) C dX0_setMark_14 0 rfl ?_
    refine r_geti (pc := 15) C fL_X0_32 dX0_setMark_15 o_v0 ?_
    refine r_topi (fun x4 ex4 => ?_)
    have h := h x4 ex4
    obtain ⟨o_a3, h⟩ := h
    obtain ⟨i5, a6, ea6, h⟩ := h
    refine r_aald16 (pc := 18) C dX0_setMark_18 o_a3 i5 ea6 ?_
    refine r_aload_n (pc := 19) C dX0_setMark_19 0 rfl ?_
    obtain ⟨a7, ea7, h⟩ := h
    refine r_getr (pc := 20) C fL_X0_18 dX0_setMark_20 o_v0 ea7 ?_
    obtain ⟨o_a6, h⟩ := h
    refine r_callVv0 (pc := 23) C (rest := []) (a := a6) o_a6 [.ref a7] yV_X2_copy g_990 (c_X2_copy h) dX0_setMark_23 rfl rfl (Nat.le_of_ble_eq_true rfl) ⟨by decide, by decide⟩ ⟨by decide, by decide⟩ ⟨rfl, rfl⟩ (fun S8 h g9 => ?_)
    have h := h g9
    have o_a3 := gr_ob g9 o_a3
    have o_a6 := gr_ob g9 o_a6
    have o_v0 := gr_ob g9 o_v0
    refine r_aload_n (pc := 26) C dX0_setMark_26 0 rfl ?_
    refine r_dup (pc := 27) C dX0_setMark_27 rfl ?_
    refine r_geti (pc := 28) C fL_X0_32 dX0_setMark_28 o_v0 ?_
    refine r_topi (fun x11 ex11 => ?_)
    have h := h x11 ex11
    refine r_iconst (pc := 31) C (v := (1 : Int32)) dX0_setMark_31 (by decide) ?_
    refine r_iadd (pc := 32) C dX0_setMark_32 ?_
    refine r_topi (fun x12 ex12 => ?_)
    have h := h x12 ex12
    refine r_puti (pc := 33) C pfL_X0_32 dX0_setMark_33 o_v0 ?_
    refine r_heap (fun S13 eS13 => ?_)
    have h := h S13 eS13
    have o_a3 := ob_I eS13 o_a3
    have o_a6 := ob_I eS13 o_a6
    have o_v0 := ob_I eS13 o_v0
    refine r_aload_n (pc := 36) C dX0_setMark_36 0 rfl ?_
    refine r_geti (pc := 37) C fL_X0_32 dX0_setMark_37 o_v0 ?_
    refine r_topi (fun x14 ex14 => ?_)
    have h := h x14 ex14
    refine r_iconst (pc := 40) C (v := (1 : Int32)) dX0_setMark_40 (by decide) ?_
    refine r_isub (pc := 41) C dX0_setMark_41 ?_
    exact r_iret (pc := 42) C E ht dX0_setMark_42 (by decide) (by decide) h
  · have h := h.2 c2
    refine r_iconst (pc := 8) C (v := (-1 : Int32)) dX0_setMark_8 (by decide) ?_
    exact r_iret (pc := 9) C E ht dX0_setMark_9 (by decide) (by decide) h
def P_X0_setMark (v0 : Nat) (Q : Int32 → HS → Prop) (S : HS) : Prop := P_X0_setMark_0 Q v0 S
theorem c_X0_setMark {l : Launch} {Ee : EE} {S : HS} {v0 : Nat} {Q : Int32 → HS → Prop} (h : P_X0_setMark v0 Q S) : MI l yX0_setMark cX0_setMark 1 (some .int) rm_X0_setMark Ee S [.ref v0] Q :=
  openI (by decide) (Nat.le_of_ble_eq_true rfl) (fun X C E ht hn hE hl => by subst hE; exact r_sub [0] rfl (T_X0_setMark_0 C E ht hn h))
def rm_X0_takeBack : Room := { frames := 1, cells := 0, slots := 0, locals := 22 }
def P_X0_takeBack_0 (Q : Int32 → HS → Prop) (v0 : Nat) (S : HS) : Prop := ob S v0 0 ∧ (∀ x1 : Int32, x1 = fI S v0 2 → (((0 < x1) → (∀ x3 : Int32, x3 = fI S v0 2 → (∀ x4 : Int32, x4 = x3 - (1 : Int32) → (∀ S5 : HS, S5 = sI S v0 2 x4 → (∃ a6 : Nat, fR S5 v0 4 = some a6 ∧ (∃ a7 : Nat, fR S5 v0 5 = some a7 ∧ (∀ x8 : Int32, x8 = fI S5 v0 2 → (ob S5 a7 16 ∧ (vp_in x8 (hN S5 a7) ∧ ∃ a10 : Nat, fR S5 a7 x8.toNatClampNeg = some a10 ∧ (ob S5 a6 2 ∧ (P_X2_copy a6 a10 (fun S11 => Gr S5 S11 → (Q (1 : Int32) S11)) S5))))))))))) ∧ ((¬ 0 < x1) → (Q (0 : Int32) S))))
set_option maxRecDepth 20000 in
set_option maxHeartbeats 4000000 in
theorem T_X0_takeBack_0 {X : CX} {Q : Int32 → HS → Prop} (C : Cx X cX0_takeBack RX0 1 rm_X0_takeBack) (E : ReI X rm_X0_takeBack (fun r S => bl r ∧ Q r S)) (ht : (xh X).sig.returnType = (some .boolean)) (hn : (xh X).name = yX0_takeBack.name) {v0 : Nat} {S : HS} (h : P_X0_takeBack_0 Q v0 S) : WS X 1 0 0 0 [(0, .ref v0)] [] S := by
  refine r_aload_n (pc := 0) C dX0_takeBack_0 0 rfl ?_
  obtain ⟨o_v0, h⟩ := h
  refine r_geti (pc := 1) C fL_X0_29 dX0_takeBack_1 o_v0 ?_
  refine r_topi (fun x1 ex1 => ?_)
  have h := h x1 ex1
  refine r_if_gt (pc := 4) C (tgt := 9) dX0_takeBack_4 (by decide) (fun c2 => ?_) (fun c2 => ?_)
  · have h := h.1 c2
    refine r_aload_n (pc := 9) C dX0_takeBack_9 0 rfl ?_
    refine r_dup (pc := 10) C dX0_takeBack_10 rfl ?_
    refine r_geti (pc := 11) C fL_X0_29 dX0_takeBack_11 o_v0 ?_
    refine r_topi (fun x3 ex3 => ?_)
    have h := h x3 ex3
    refine r_iconst (pc := 14) C (v := (1 : Int32)) dX0_takeBack_14 (by decide) ?_
    refine r_isub (pc := 15) C dX0_takeBack_15 ?_
    refine r_topi (fun x4 ex4 => ?_)
    have h := h x4 ex4
    refine r_puti (pc := 16) C pfL_X0_29 dX0_takeBack_16 o_v0 ?_
    refine r_heap (fun S5 eS5 => ?_)
    have h := h S5 eS5
    have o_v0 := ob_I eS5 o_v0
    refine r_aload_n (pc := 19) C dX0_takeBack_19 0 rfl ?_
    obtain ⟨a6, ea6, h⟩ := h
    refine r_getr (pc := 20) C fL_X0_18 dX0_takeBack_20 o_v0 ea6 ?_
    refine r_aload_n (pc := 23) C dX0_takeBack_23 0 rfl ?_
    obtain ⟨a7, ea7, h⟩ := h
    refine r_getr (pc := 24) C fL_X0_22 dX0_takeBack_24 o_v0 ea7 ?_
    refine r_aload_n (pc := 27) C dX0_takeBack_27 0 rfl ?_
    refine r_geti (pc := 28) C fL_X0_29 dX0_takeBack_28 o_v0 ?_
    refine r_topi (fun x8 ex8 => ?_)
    have h := h x8 ex8
    obtain ⟨o_a7, h⟩ := h
    obtain ⟨i9, a10, ea10, h⟩ := h
    refine r_aald16 (pc := 31) C dX0_takeBack_31 o_a7 i9 ea10 ?_
    obtain ⟨o_a6, h⟩ := h
    refine r_callVv0 (pc := 32) C (rest := []) (a := a6) o_a6 [.ref a10] yV_X2_copy g_990 (c_X2_copy h) dX0_takeBack_32 rfl rfl (Nat.le_of_ble_eq_true rfl) ⟨by decide, by decide⟩ ⟨by decide, by decide⟩ ⟨rfl, rfl⟩ (fun S11 h g12 => ?_)
    have h := h g12
    have o_a6 := gr_ob g12 o_a6
    have o_a7 := gr_ob g12 o_a7
    have o_v0 := gr_ob g12 o_v0
    refine r_iconst (pc := 35) C (v := (1 : Int32)) dX0_takeBack_35 (by decide) ?_
    exact r_zret (pc := 36) C E ht dX0_takeBack_36 (by decide) (by decide) (Or.inr rfl) h
  · have h := h.2 c2
    refine r_iconst (pc := 7) C (v := (0 : Int32)) dX0_takeBack_7 (by decide) ?_
    exact r_zret (pc := 8) C E ht dX0_takeBack_8 (by decide) (by decide) (Or.inl rfl) h
def P_X0_takeBack (v0 : Nat) (Q : Int32 → HS → Prop) (S : HS) : Prop := P_X0_takeBack_0 Q v0 S
theorem c_X0_takeBack {l : Launch} {Ee : EE} {S : HS} {v0 : Nat} {Q : Int32 → HS → Prop} (h : P_X0_takeBack v0 Q S) : MI l yX0_takeBack cX0_takeBack 1 (some .boolean) rm_X0_takeBack Ee S [.ref v0] (fun r S => bl r ∧ Q r S) :=
  openI (by decide) (Nat.le_of_ble_eq_true rfl) (fun X C E ht hn hE hl => by subst hE; exact r_sub [0] rfl (T_X0_takeBack_0 C E ht hn h))
def rm_X10_facing : Room := { frames := 0, cells := 0, slots := 0, locals := 0 }
def P_X10_facing_0 (Q : Int32 → HS → Prop) (v0 : Nat) (v1 : Int32) (v2 : Int32) (S : HS) : Prop := ((¬ v2 = 0) → (ob S v0 10 ∧ (∃ a2 : Nat, fR S v0 15 = some a2 ∧ (ob S a2 13 ∧ (vp_in v1 (hN S a2) ∧ ∀ x4 : Int32, x4 = fI S a2 v1.toNatClampNeg → (Q ((x4 + (2 : Int32)) &&& (3 : Int32)) S)))))) ∧ ((v2 = 0) → (ob S v0 10 ∧ (∃ a5 : Nat, fR S v0 15 = some a5 ∧ (ob S a5 13 ∧ (vp_in v1 (hN S a5) ∧ ∀ x7 : Int32, x7 = fI S a5 v1.toNatClampNeg → (Q x7 S))))))
set_option maxRecDepth 20000 in
set_option maxHeartbeats 4000000 in
theorem T_X10_facing_0 {X : CX} {Q : Int32 → HS → Prop} (C : Cx X cX10_facing RX10 3 rm_X10_facing) (E : ReI X rm_X10_facing Q) (ht : (xh X).sig.returnType = (some .int)) (hn : (xh X).name = yX10_facing.name) {v0 : Nat} {v1 : Int32} {v2 : Int32} {S : HS} (h : P_X10_facing_0 Q v0 v1 v2 S) : WS X 3 0 0 0 [(0, .ref v0), (1, .int v1), (2, .int v2)] [] S := by
  refine r_iload_n (pc := 0) C dX10_facing_0 2 rfl ?_
  refine r_if_ne (pc := 1) C (tgt := 13) dX10_facing_1 (by decide) (fun c1 => ?_) (fun c1 => ?_)
  · have h := h.1 c1
    refine r_aload_n (pc := 13) C dX10_facing_13 0 rfl ?_
    obtain ⟨o_v0, h⟩ := h
    obtain ⟨a2, ea2, h⟩ := h
    refine r_getr (pc := 14) C fL_X10_36 dX10_facing_14 o_v0 ea2 ?_
    refine r_iload_n (pc := 17) C dX10_facing_17 1 rfl ?_
    obtain ⟨o_a2, h⟩ := h
    obtain ⟨i3, h⟩ := h
    refine r_iald (pc := 18) C dX10_facing_18 o_a2 i3 ?_
    refine r_topi (fun x4 ex4 => ?_)
    have h := h x4 ex4
    refine r_iconst (pc := 19) C (v := (2 : Int32)) dX10_facing_19 (by decide) ?_
    refine r_iadd (pc := 20) C dX10_facing_20 ?_
    refine r_iconst (pc := 21) C (v := (3 : Int32)) dX10_facing_21 (by decide) ?_
    refine r_iand (pc := 22) C dX10_facing_22 ?_
    exact r_iret (pc := 23) C E ht dX10_facing_23 (by decide) (by decide) h
  · have h := h.2 c1
    refine r_aload_n (pc := 4) C dX10_facing_4 0 rfl ?_
    obtain ⟨o_v0, h⟩ := h
    obtain ⟨a5, ea5, h⟩ := h
    refine r_getr (pc := 5) C fL_X10_36 dX10_facing_5 o_v0 ea5 ?_
    refine r_iload_n (pc := 8) C dX10_facing_8 1 rfl ?_
    obtain ⟨o_a5, h⟩ := h
    obtain ⟨i6, h⟩ := h
    refine r_iald (pc := 9) C dX10_facing_9 o_a5 i6 ?_
    refine r_topi (fun x7 ex7 => ?_)
    have h := h x7 ex7
    refine r_goto (pc := 10) C (tgt := 23) dX10_facing_10 (by decide) ?_
    exact r_iret (pc := 23) C E ht dX10_facing_23 (by decide) (by decide) h
def P_X10_facing (v0 : Nat) (v1 : Int32) (v2 : Int32) (Q : Int32 → HS → Prop) (S : HS) : Prop := P_X10_facing_0 Q v0 v1 v2 S
theorem c_X10_facing {l : Launch} {Ee : EE} {S : HS} {v0 : Nat} {v1 : Int32} {v2 : Int32} {Q : Int32 → HS → Prop} (h : P_X10_facing v0 v1 v2 Q S) : MI l yX10_facing cX10_facing 3 (some .int) rm_X10_facing Ee S [.ref v0, .int v1, .int v2] Q :=
  openI (by decide) (Nat.le_of_ble_eq_true rfl) (fun X C E ht hn hE hl => by subst hE; exact r_sub [0, 1, 2] rfl (T_X10_facing_0 C E ht hn h))
def rm_X10_across : Room := { frames := 1, cells := 0, slots := 0, locals := 22 }
def P_X10_across_0 (Q : Int32 → HS → Prop) (v0 : Nat) (v1 : Int32) (v2 : Int32) (v3 : Int32) (S : HS) : Prop := ob S v0 10 ∧ (∃ a1 : Nat, fR S v0 9 = some a1 ∧ (ob S a1 13 ∧ (vp_in v3 (hN S a1) ∧ ∀ x3 : Int32, x3 = fI S a1 v3.toNatClampNeg → (P_X10_facing v0 v1 v2 (fun x6 S4 => Gr S S4 → (∀ x7 : Int32, x7 = (x3 - x6) &&& (3 : Int32) → (((¬ x7 = (1 : Int32)) → (((¬ x7 = (3 : Int32)) → (Q (0 : Int32) S4)) ∧ ((x7 = (3 : Int32)) → (∃ a10 : Nat, fR S4 v0 10 = some a10 ∧ (ob S4 a10 13 ∧ (vp_in v3 (hN S4 a10) ∧ ∀ x12 : Int32, x12 = fI S4 a10 v3.toNatClampNeg → (Q (-x12) S4))))))) ∧ ((x7 = (1 : Int32)) → (∃ a13 : Nat, fR S4 v0 10 = some a13 ∧ (ob S4 a13 13 ∧ (vp_in v3 (hN S4 a13) ∧ ∀ x15 : Int32, x15 = fI S4 a13 v3.toNatClampNeg → (Q x15 S4)))))))) S))))
set_option maxRecDepth 20000 in
set_option maxHeartbeats 4000000 in
theorem T_X10_across_0 {X : CX} {Q : Int32 → HS → Prop} (C : Cx X cX10_across RX10 5 rm_X10_across) (E : ReI X rm_X10_across Q) (ht : (xh X).sig.returnType = (some .int)) (hn : (xh X).name = yX10_across.name) {v0 : Nat} {v1 : Int32} {v2 : Int32} {v3 : Int32} {S : HS} (h : P_X10_across_0 Q v0 v1 v2 v3 S) : WS X 5 0 0 0 [(0, .ref v0), (1, .int v1), (2, .int v2), (3, .int v3)] [] S := by
  refine r_aload_n (pc := 0) C dX10_across_0 0 rfl ?_
  obtain ⟨o_v0, h⟩ := h
  obtain ⟨a1, ea1, h⟩ := h
  refine r_getr (pc := 1) C fL_X10_18 dX10_across_1 o_v0 ea1 ?_
  refine r_iload_n (pc := 4) C dX10_across_4 3 rfl ?_
  obtain ⟨o_a1, h⟩ := h
  obtain ⟨i2, h⟩ := h
  refine r_iald (pc := 5) C dX10_across_5 o_a1 i2 ?_
  refine r_topi (fun x3 ex3 => ?_)
  have h := h x3 ex3
  refine r_aload_n (pc := 6) C dX10_across_6 0 rfl ?_
  refine r_iload_n (pc := 7) C dX10_across_7 1 rfl ?_
  refine r_iload_n (pc := 8) C dX10_across_8 2 rfl ?_
  refine r_callVi0 (pc := 9) C (rest := [.int x3]) (a := v0) o_v0 [.int v1, .int v2] yV_X10_facing g_1566 (c_X10_facing h) dX10_across_9 rfl rfl (Nat.le_of_ble_eq_true rfl) ⟨by decide, by decide⟩ ⟨by decide, by decide⟩ ⟨rfl, rfl⟩ (fun x6 S4 h g5 => ?_)
  have h := h g5
  have o_a1 := gr_ob g5 o_a1
  have o_v0 := gr_ob g5 o_v0
  refine r_isub (pc := 12) C dX10_across_12 ?_
  refine r_iconst (pc := 13) C (v := (3 : Int32)) dX10_across_13 (by decide) ?_
  refine r_iand (pc := 14) C dX10_across_14 ?_
  refine r_topi (fun x7 ex7 => ?_)
  have h := h x7 ex7
  refine r_istore (pc := 15) C dX10_across_15 (by decide) (lv' := [(4, .int x7), (0, .ref v0), (1, .int v1), (2, .int v2), (3, .int v3)]) rfl ?_
  refine r_iload (pc := 17) C dX10_across_17 0 rfl ?_
  refine r_iconst (pc := 19) C (v := (1 : Int32)) dX10_across_19 (by decide) ?_
  refine r_icmp_ne (pc := 20) C (tgt := 32) dX10_across_20 (by decide) (fun c8 => ?_) (fun c8 => ?_)
  · have h := h.1 c8
    refine r_iload (pc := 32) C dX10_across_32 0 rfl ?_
    refine r_iconst (pc := 34) C (v := (3 : Int32)) dX10_across_34 (by decide) ?_
    refine r_icmp_ne (pc := 35) C (tgt := 48) dX10_across_35 (by decide) (fun c9 => ?_) (fun c9 => ?_)
    · have h := h.1 c9
      refine r_iconst (pc := 48) C (v := (0 : Int32)) dX10_across_48 (by decide) ?_
      exact r_iret (pc := 49) C E ht dX10_across_49 (by decide) (by decide) h
    · have h := h.2 c9
      refine r_aload_n (pc := 38) C dX10_across_38 1 rfl ?_
      obtain ⟨a10, ea10, h⟩ := h
      refine r_getr (pc := 39) C fL_X10_21 dX10_across_39 o_v0 ea10 ?_
      refine r_iload_n (pc := 42) C dX10_across_42 4 rfl ?_
      obtain ⟨o_a10, h⟩ := h
      obtain ⟨i11, h⟩ := h
      refine r_iald (pc := 43) C dX10_across_43 o_a10 i11 ?_
      refine r_topi (fun x12 ex12 => ?_)
      have h := h x12 ex12
      refine r_ineg (pc := 44) C dX10_across_44 ?_
      refine r_goto (pc := 45) C (tgt := 49) dX10_across_45 (by decide) ?_
      exact r_iret (pc := 49) C E ht dX10_across_49 (by decide) (by decide) h
  · have h := h.2 c8
    refine r_aload_n (pc := 23) C dX10_across_23 1 rfl ?_
    obtain ⟨a13, ea13, h⟩ := h
    refine r_getr (pc := 24) C fL_X10_21 dX10_across_24 o_v0 ea13 ?_
    refine r_iload_n (pc := 27) C dX10_across_27 4 rfl ?_
    obtain ⟨o_a13, h⟩ := h
    obtain ⟨i14, h⟩ := h
    refine r_iald (pc := 28) C dX10_across_28 o_a13 i14 ?_
    refine r_topi (fun x15 ex15 => ?_)
    have h := h x15 ex15
    refine r_goto (pc := 29) C (tgt := 49) dX10_across_29 (by decide) ?_
    exact r_iret (pc := 49) C E ht dX10_across_49 (by decide) (by decide) h
def P_X10_across (v0 : Nat) (v1 : Int32) (v2 : Int32) (v3 : Int32) (Q : Int32 → HS → Prop) (S : HS) : Prop := P_X10_across_0 Q v0 v1 v2 v3 S
theorem c_X10_across {l : Launch} {Ee : EE} {S : HS} {v0 : Nat} {v1 : Int32} {v2 : Int32} {v3 : Int32} {Q : Int32 → HS → Prop} (h : P_X10_across v0 v1 v2 v3 Q S) : MI l yX10_across cX10_across 5 (some .int) rm_X10_across Ee S [.ref v0, .int v1, .int v2, .int v3] Q :=
  openI (by decide) (Nat.le_of_ble_eq_true rfl) (fun X C E ht hn hE hl => by subst hE; exact r_sub [0, 1, 2, 3] rfl (T_X10_across_0 C E ht hn h))
def rm_X10_air : Room := { frames := 1, cells := 0, slots := 0, locals := 22 }
def P_X10_air_0 (Q : Int32 → HS → Prop) (v0 : Nat) (v1 : Int32) (v2 : Int32) (v3 : Int32) (S : HS) : Prop := ob S v0 10 ∧ (∃ a1 : Nat, fR S v0 9 = some a1 ∧ (ob S a1 13 ∧ (vp_in v3 (hN S a1) ∧ ∀ x3 : Int32, x3 = fI S a1 v3.toNatClampNeg → (P_X10_facing v0 v1 v2 (fun x6 S4 => Gr S S4 → (∀ x7 : Int32, x7 = (x3 - x6) &&& (3 : Int32) → (((¬ x7 = 0) → (((¬ x7 = (2 : Int32)) → (Q (0 : Int32) S4)) ∧ ((x7 = (2 : Int32)) → (∃ a10 : Nat, fR S4 v0 10 = some a10 ∧ (ob S4 a10 13 ∧ (vp_in v3 (hN S4 a10) ∧ ∀ x12 : Int32, x12 = fI S4 a10 v3.toNatClampNeg → (Q (-x12) S4))))))) ∧ ((x7 = 0) → (∃ a13 : Nat, fR S4 v0 10 = some a13 ∧ (ob S4 a13 13 ∧ (vp_in v3 (hN S4 a13) ∧ ∀ x15 : Int32, x15 = fI S4 a13 v3.toNatClampNeg → (Q x15 S4)))))))) S))))
set_option maxRecDepth 20000 in
set_option maxHeartbeats 4000000 in
theorem T_X10_air_0 {X : CX} {Q : Int32 → HS → Prop} (C : Cx X cX10_air RX10 5 rm_X10_air) (E : ReI X rm_X10_air Q) (ht : (xh X).sig.returnType = (some .int)) (hn : (xh X).name = yX10_air.name) {v0 : Nat} {v1 : Int32} {v2 : Int32} {v3 : Int32} {S : HS} (h : P_X10_air_0 Q v0 v1 v2 v3 S) : WS X 5 0 0 0 [(0, .ref v0), (1, .int v1), (2, .int v2), (3, .int v3)] [] S := by
  refine r_aload_n (pc := 0) C dX10_air_0 0 rfl ?_
  obtain ⟨o_v0, h⟩ := h
  obtain ⟨a1, ea1, h⟩ := h
  refine r_getr (pc := 1) C fL_X10_18 dX10_air_1 o_v0 ea1 ?_
  refine r_iload_n (pc := 4) C dX10_air_4 3 rfl ?_
  obtain ⟨o_a1, h⟩ := h
  obtain ⟨i2, h⟩ := h
  refine r_iald (pc := 5) C dX10_air_5 o_a1 i2 ?_
  refine r_topi (fun x3 ex3 => ?_)
  have h := h x3 ex3
  refine r_aload_n (pc := 6) C dX10_air_6 0 rfl ?_
  refine r_iload_n (pc := 7) C dX10_air_7 1 rfl ?_
  refine r_iload_n (pc := 8) C dX10_air_8 2 rfl ?_
  refine r_callVi0 (pc := 9) C (rest := [.int x3]) (a := v0) o_v0 [.int v1, .int v2] yV_X10_facing g_1566 (c_X10_facing h) dX10_air_9 rfl rfl (Nat.le_of_ble_eq_true rfl) ⟨by decide, by decide⟩ ⟨by decide, by decide⟩ ⟨rfl, rfl⟩ (fun x6 S4 h g5 => ?_)
  have h := h g5
  have o_a1 := gr_ob g5 o_a1
  have o_v0 := gr_ob g5 o_v0
  refine r_isub (pc := 12) C dX10_air_12 ?_
  refine r_iconst (pc := 13) C (v := (3 : Int32)) dX10_air_13 (by decide) ?_
  refine r_iand (pc := 14) C dX10_air_14 ?_
  refine r_topi (fun x7 ex7 => ?_)
  have h := h x7 ex7
  refine r_istore (pc := 15) C dX10_air_15 (by decide) (lv' := [(4, .int x7), (0, .ref v0), (1, .int v1), (2, .int v2), (3, .int v3)]) rfl ?_
  refine r_iload (pc := 17) C dX10_air_17 0 rfl ?_
  refine r_if_ne (pc := 19) C (tgt := 31) dX10_air_19 (by decide) (fun c8 => ?_) (fun c8 => ?_)
  · have h := h.1 c8
    refine r_iload (pc := 31) C dX10_air_31 0 rfl ?_
    refine r_iconst (pc := 33) C (v := (2 : Int32)) dX10_air_33 (by decide) ?_
    refine r_icmp_ne (pc := 34) C (tgt := 47) dX10_air_34 (by decide) (fun c9 => ?_) (fun c9 => ?_)
    · have h := h.1 c9
      refine r_iconst (pc := 47) C (v := (0 : Int32)) dX10_air_47 (by decide) ?_
      exact r_iret (pc := 48) C E ht dX10_air_48 (by decide) (by decide) h
    · have h := h.2 c9
      refine r_aload_n (pc := 37) C dX10_air_37 1 rfl ?_
      obtain ⟨a10, ea10, h⟩ := h
      refine r_getr (pc := 38) C fL_X10_21 dX10_air_38 o_v0 ea10 ?_
      refine r_iload_n (pc := 41) C dX10_air_41 4 rfl ?_
      obtain ⟨o_a10, h⟩ := h
      obtain ⟨i11, h⟩ := h
      refine r_iald (pc := 42) C dX10_air_42 o_a10 i11 ?_
      refine r_topi (fun x12 ex12 => ?_)
      have h := h x12 ex12
      refine r_ineg (pc := 43) C dX10_air_43 ?_
      refine r_goto (pc := 44) C (tgt := 48) dX10_air_44 (by decide) ?_
      exact r_iret (pc := 48) C E ht dX10_air_48 (by decide) (by decide) h
  · have h := h.2 c8
    refine r_aload_n (pc := 22) C dX10_air_22 1 rfl ?_
    obtain ⟨a13, ea13, h⟩ := h
    refine r_getr (pc := 23) C fL_X10_21 dX10_air_23 o_v0 ea13 ?_
    refine r_iload_n (pc := 26) C dX10_air_26 4 rfl ?_
    obtain ⟨o_a13, h⟩ := h
    obtain ⟨i14, h⟩ := h
    refine r_iald (pc := 27) C dX10_air_27 o_a13 i14 ?_
    refine r_topi (fun x15 ex15 => ?_)
    have h := h x15 ex15
    refine r_goto (pc := 28) C (tgt := 48) dX10_air_28 (by decide) ?_
    exact r_iret (pc := 48) C E ht dX10_air_48 (by decide) (by decide) h
def P_X10_air (v0 : Nat) (v1 : Int32) (v2 : Int32) (v3 : Int32) (Q : Int32 → HS → Prop) (S : HS) : Prop := P_X10_air_0 Q v0 v1 v2 v3 S
theorem c_X10_air {l : Launch} {Ee : EE} {S : HS} {v0 : Nat} {v1 : Int32} {v2 : Int32} {v3 : Int32} {Q : Int32 → HS → Prop} (h : P_X10_air v0 v1 v2 v3 Q S) : MI l yX10_air cX10_air 5 (some .int) rm_X10_air Ee S [.ref v0, .int v1, .int v2, .int v3] Q :=
  openI (by decide) (Nat.le_of_ble_eq_true rfl) (fun X C E ht hn hE hl => by subst hE; exact r_sub [0, 1, 2, 3] rfl (T_X10_air_0 C E ht hn h))
def rm_X10_begins : Room := { frames := 0, cells := 0, slots := 0, locals := 0 }
def P_X10_begins_0 (Q : Int32 → HS → Prop) (v0 : Nat) (v1 : Int32) (v2 : Int32) (S : HS) : Prop := ((¬ v2 = 0) → (ob S v0 10 ∧ (∃ a2 : Nat, fR S v0 14 = some a2 ∧ (ob S a2 13 ∧ (vp_in v1 (hN S a2) ∧ ∀ x4 : Int32, x4 = fI S a2 v1.toNatClampNeg → (Q x4 S)))))) ∧ ((v2 = 0) → (ob S v0 10 ∧ (∃ a5 : Nat, fR S v0 13 = some a5 ∧ (ob S a5 13 ∧ (vp_in v1 (hN S a5) ∧ ∀ x7 : Int32, x7 = fI S a5 v1.toNatClampNeg → (Q x7 S))))))
set_option maxRecDepth 20000 in
set_option maxHeartbeats 4000000 in
theorem T_X10_begins_0 {X : CX} {Q : Int32 → HS → Prop} (C : Cx X cX10_begins RX10 3 rm_X10_begins) (E : ReI X rm_X10_begins Q) (ht : (xh X).sig.returnType = (some .int)) (hn : (xh X).name = yX10_begins.name) {v0 : Nat} {v1 : Int32} {v2 : Int32} {S : HS} (h : P_X10_begins_0 Q v0 v1 v2 S) : WS X 3 0 0 0 [(0, .ref v0), (1, .int v1), (2, .int v2)] [] S := by
  refine r_iload_n (pc := 0) C dX10_begins_0 2 rfl ?_
  refine r_if_ne (pc := 1) C (tgt := 13) dX10_begins_1 (by decide) (fun c1 => ?_) (fun c1 => ?_)
  · have h := h.1 c1
    refine r_aload_n (pc := 13) C dX10_begins_13 0 rfl ?_
    obtain ⟨o_v0, h⟩ := h
    obtain ⟨a2, ea2, h⟩ := h
    refine r_getr (pc := 14) C fL_X10_33 dX10_begins_14 o_v0 ea2 ?_
    refine r_iload_n (pc := 17) C dX10_begins_17 1 rfl ?_
    obtain ⟨o_a2, h⟩ := h
    obtain ⟨i3, h⟩ := h
    refine r_iald (pc := 18) C dX10_begins_18 o_a2 i3 ?_
    refine r_topi (fun x4 ex4 => ?_)
    have h := h x4 ex4
    exact r_iret (pc := 19) C E ht dX10_begins_19 (by decide) (by decide) h
  · have h := h.2 c1
    refine r_aload_n (pc := 4) C dX10_begins_4 0 rfl ?_
    obtain ⟨o_v0, h⟩ := h
    obtain ⟨a5, ea5, h⟩ := h
    refine r_getr (pc := 5) C fL_X10_30 dX10_begins_5 o_v0 ea5 ?_
    refine r_iload_n (pc := 8) C dX10_begins_8 1 rfl ?_
    obtain ⟨o_a5, h⟩ := h
    obtain ⟨i6, h⟩ := h
    refine r_iald (pc := 9) C dX10_begins_9 o_a5 i6 ?_
    refine r_topi (fun x7 ex7 => ?_)
    have h := h x7 ex7
    refine r_goto (pc := 10) C (tgt := 19) dX10_begins_10 (by decide) ?_
    exact r_iret (pc := 19) C E ht dX10_begins_19 (by decide) (by decide) h
def P_X10_begins (v0 : Nat) (v1 : Int32) (v2 : Int32) (Q : Int32 → HS → Prop) (S : HS) : Prop := P_X10_begins_0 Q v0 v1 v2 S
theorem c_X10_begins {l : Launch} {Ee : EE} {S : HS} {v0 : Nat} {v1 : Int32} {v2 : Int32} {Q : Int32 → HS → Prop} (h : P_X10_begins v0 v1 v2 Q S) : MI l yX10_begins cX10_begins 3 (some .int) rm_X10_begins Ee S [.ref v0, .int v1, .int v2] Q :=
  openI (by decide) (Nat.le_of_ble_eq_true rfl) (fun X C E ht hn hE hl => by subst hE; exact r_sub [0, 1, 2] rfl (T_X10_begins_0 C E ht hn h))
def rm_X10_ends : Room := { frames := 0, cells := 0, slots := 0, locals := 0 }
def P_X10_ends_0 (Q : Int32 → HS → Prop) (v0 : Nat) (v1 : Int32) (v2 : Int32) (S : HS) : Prop := ((¬ v2 = 0) → (ob S v0 10 ∧ (∃ a2 : Nat, fR S v0 13 = some a2 ∧ (ob S a2 13 ∧ (vp_in v1 (hN S a2) ∧ ∀ x4 : Int32, x4 = fI S a2 v1.toNatClampNeg → (Q x4 S)))))) ∧ ((v2 = 0) → (ob S v0 10 ∧ (∃ a5 : Nat, fR S v0 14 = some a5 ∧ (ob S a5 13 ∧ (vp_in v1 (hN S a5) ∧ ∀ x7 : Int32, x7 = fI S a5 v1.toNatClampNeg → (Q x7 S))))))
set_option maxRecDepth 20000 in
set_option maxHeartbeats 4000000 in
theorem T_X10_ends_0 {X : CX} {Q : Int32 → HS → Prop} (C : Cx X cX10_ends RX10 3 rm_X10_ends) (E : ReI X rm_X10_ends Q) (ht : (xh X).sig.returnType = (some .int)) (hn : (xh X).name = yX10_ends.name) {v0 : Nat} {v1 : Int32} {v2 : Int32} {S : HS} (h : P_X10_ends_0 Q v0 v1 v2 S) : WS X 3 0 0 0 [(0, .ref v0), (1, .int v1), (2, .int v2)] [] S := by
  refine r_iload_n (pc := 0) C dX10_ends_0 2 rfl ?_
  refine r_if_ne (pc := 1) C (tgt := 13) dX10_ends_1 (by decide) (fun c1 => ?_) (fun c1 => ?_)
  · have h := h.1 c1
    refine r_aload_n (pc := 13) C dX10_ends_13 0 rfl ?_
    obtain ⟨o_v0, h⟩ := h
    obtain ⟨a2, ea2, h⟩ := h
    refine r_getr (pc := 14) C fL_X10_30 dX10_ends_14 o_v0 ea2 ?_
    refine r_iload_n (pc := 17) C dX10_ends_17 1 rfl ?_
    obtain ⟨o_a2, h⟩ := h
    obtain ⟨i3, h⟩ := h
    refine r_iald (pc := 18) C dX10_ends_18 o_a2 i3 ?_
    refine r_topi (fun x4 ex4 => ?_)
    have h := h x4 ex4
    exact r_iret (pc := 19) C E ht dX10_ends_19 (by decide) (by decide) h
  · have h := h.2 c1
    refine r_aload_n (pc := 4) C dX10_ends_4 0 rfl ?_
    obtain ⟨o_v0, h⟩ := h
    obtain ⟨a5, ea5, h⟩ := h
    refine r_getr (pc := 5) C fL_X10_33 dX10_ends_5 o_v0 ea5 ?_
    refine r_iload_n (pc := 8) C dX10_ends_8 1 rfl ?_
    obtain ⟨o_a5, h⟩ := h
    obtain ⟨i6, h⟩ := h
    refine r_iald (pc := 9) C dX10_ends_9 o_a5 i6 ?_
    refine r_topi (fun x7 ex7 => ?_)
    have h := h x7 ex7
    refine r_goto (pc := 10) C (tgt := 19) dX10_ends_10 (by decide) ?_
    exact r_iret (pc := 19) C E ht dX10_ends_19 (by decide) (by decide) h
def P_X10_ends (v0 : Nat) (v1 : Int32) (v2 : Int32) (Q : Int32 → HS → Prop) (S : HS) : Prop := P_X10_ends_0 Q v0 v1 v2 S
theorem c_X10_ends {l : Launch} {Ee : EE} {S : HS} {v0 : Nat} {v1 : Int32} {v2 : Int32} {Q : Int32 → HS → Prop} (h : P_X10_ends v0 v1 v2 Q S) : MI l yX10_ends cX10_ends 3 (some .int) rm_X10_ends Ee S [.ref v0, .int v1, .int v2] Q :=
  openI (by decide) (Nat.le_of_ble_eq_true rfl) (fun X C E ht hn hE hl => by subst hE; exact r_sub [0, 1, 2] rfl (T_X10_ends_0 C E ht hn h))
def rm_X10_find : Room := { frames := 0, cells := 0, slots := 0, locals := 0 }
def B_X10_find_2 (Q : Int32 → HS → Prop) (X2 : Nat → Int64 → Int32 → HS → Prop) (v0 : Nat) (v1 : Int64) (v3 : Int32) (S : HS) : Prop := ob S v0 10 ∧ (∀ x1 : Int32, x1 = fI S v0 6 → (((x1 ≤ v3) → (Q (-1 : Int32) S)) ∧ ((¬ x1 ≤ v3) → (∃ a3 : Nat, fR S v0 28 = some a3 ∧ (ob S a3 14 ∧ (vp_in v3 (hN S a3) ∧ ∀ x5 : Int64, x5 = fJ S a3 v3.toNatClampNeg → (((¬ (lg_cmp x5 v1) = 0) → (∀ x7 : Int32, x7 = v3 + (1 : Int32) → (X2 v0 v1 x7 S))) ∧ (((lg_cmp x5 v1) = 0) → (Q v3 S)))))))))
def P_X10_find_2 (Q : Int32 → HS → Prop) (v0 : Nat) (v1 : Int64) (v3 : Int32) (S : HS) : Prop := ∀ X2 : Nat → Int64 → Int32 → HS → Prop, (∀ (v0 : Nat) (v1 : Int64) (v3 : Int32) (S : HS), B_X10_find_2 Q X2 v0 v1 v3 S → X2 v0 v1 v3 S) → X2 v0 v1 v3 S
set_option maxRecDepth 20000 in
set_option maxHeartbeats 4000000 in
theorem TB_X10_find_2 {X : CX} {Q : Int32 → HS → Prop} (C : Cx X cX10_find RX10 4 rm_X10_find) (E : ReI X rm_X10_find Q) (ht : (xh X).sig.returnType = (some .int)) (hn : (xh X).name = yX10_find.name) {X2 : Nat → Int64 → Int32 → HS → Prop} (hX2 : ∀ (v0 : Nat) (v1 : Int64) (v3 : Int32) (S : HS), X2 v0 v1 v3 S → WS X 4 0 0 2 [(0, .ref v0), (1, .long v1), (3, .int v3)] [] S) {v0 : Nat} {v1 : Int64} {v3 : Int32} {S : HS} (h : B_X10_find_2 Q X2 v0 v1 v3 S) : WS X 4 0 0 2 [(0, .ref v0), (1, .long v1), (3, .int v3)] [] S := by
  refine r_iload_n (pc := 2) C dX10_find_2 2 rfl ?_
  refine r_aload_n (pc := 3) C dX10_find_3 0 rfl ?_
  obtain ⟨o_v0, h⟩ := h
  refine r_geti (pc := 4) C fL_X10_86 dX10_find_4 o_v0 ?_
  refine r_topi (fun x1 ex1 => ?_)
  have h := h x1 ex1
  refine r_icmp_ge (pc := 7) C (tgt := 29) dX10_find_7 (by decide) (fun c2 => ?_) (fun c2 => ?_)
  · have h := h.1 c2
    refine r_iconst (pc := 29) C (v := (-1 : Int32)) dX10_find_29 (by decide) ?_
    exact r_iret (pc := 30) C E ht dX10_find_30 (by decide) (by decide) h
  · have h := h.2 c2
    refine r_aload_n (pc := 10) C dX10_find_10 0 rfl ?_
    obtain ⟨a3, ea3, h⟩ := h
    refine r_getr (pc := 11) C fL_X10_76 dX10_find_11 o_v0 ea3 ?_
    refine r_iload_n (pc := 14) C dX10_find_14 2 rfl ?_
    obtain ⟨o_a3, h⟩ := h
    obtain ⟨i4, h⟩ := h
    refine r_lald (pc := 15) C dX10_find_15 o_a3 i4 ?_
    refine r_topl (fun x5 ex5 => ?_)
    have h := h x5 ex5
    refine r_lload_n (pc := 16) C dX10_find_16 1 rfl ?_
    refine r_lcmp (pc := 17) C dX10_find_17 ?_
    refine r_if_ne (pc := 18) C (tgt := 23) dX10_find_18 (by decide) (fun c6 => ?_) (fun c6 => ?_)
    · have h := h.1 c6
      obtain ⟨x7, ex7⟩ : ∃ z : Int32, z = v3 + (1 : Int32) := ⟨_, rfl⟩
      have h := h x7 ex7
      refine r_iinc (pc := 23) C (v := x7) (lv' := [(3, .int x7), (0, .ref v0), (1, .long v1)]) dX10_find_23 2 rfl ex7.symm (by decide) rfl ?_
      refine r_goto (pc := 26) C (tgt := 2) dX10_find_26 (by decide) ?_
      exact r_sub [1, 2, 0] rfl (hX2 v0 v1 x7 S h)
    · have h := h.2 c6
      refine r_iload_n (pc := 21) C dX10_find_21 2 rfl ?_
      exact r_iret (pc := 22) C E ht dX10_find_22 (by decide) (by decide) h
theorem T_X10_find_2 {X : CX} {Q : Int32 → HS → Prop} (C : Cx X cX10_find RX10 4 rm_X10_find) (E : ReI X rm_X10_find Q) (ht : (xh X).sig.returnType = (some .int)) (hn : (xh X).name = yX10_find.name) {v0 : Nat} {v1 : Int64} {v3 : Int32} {S : HS} (h : P_X10_find_2 Q v0 v1 v3 S) : WS X 4 0 0 2 [(0, .ref v0), (1, .long v1), (3, .int v3)] [] S :=
  h (fun v0 v1 v3 S => WS X 4 0 0 2 [(0, .ref v0), (1, .long v1), (3, .int v3)] [] S) (fun v0 v1 v3 S hh => TB_X10_find_2 C E ht hn (fun v0 v1 v3 S z => z) hh)
def P_X10_find_0 (Q : Int32 → HS → Prop) (v0 : Nat) (v1 : Int64) (S : HS) : Prop := P_X10_find_2 Q v0 v1 (0 : Int32) S
set_option maxRecDepth 20000 in
set_option maxHeartbeats 4000000 in
theorem T_X10_find_0 {X : CX} {Q : Int32 → HS → Prop} (C : Cx X cX10_find RX10 4 rm_X10_find) (E : ReI X rm_X10_find Q) (ht : (xh X).sig.returnType = (some .int)) (hn : (xh X).name = yX10_find.name) {v0 : Nat} {v1 : Int64} {S : HS} (h : P_X10_find_0 Q v0 v1 S) : WS X 4 0 0 0 [(0, .ref v0), (1, .long v1)] [] S := by
  refine r_iconst (pc := 0) C (v := (0 : Int32)) dX10_find_0 (by decide) ?_
  refine r_istore_n (pc := 1) C dX10_find_1 rfl (by decide) (lv' := [(3, .int (0 : Int32)), (0, .ref v0), (1, .long v1)]) rfl ?_
  exact r_sub [1, 2, 0] rfl (T_X10_find_2 C E ht hn h)
def P_X10_find (v0 : Nat) (v1 : Int64) (Q : Int32 → HS → Prop) (S : HS) : Prop := P_X10_find_0 Q v0 v1 S
theorem c_X10_find {l : Launch} {Ee : EE} {S : HS} {v0 : Nat} {v1 : Int64} {Q : Int32 → HS → Prop} (h : P_X10_find v0 v1 Q S) : MI l yX10_find cX10_find 4 (some .int) rm_X10_find Ee S [.ref v0, .long v1] Q :=
  openI (by decide) (Nat.le_of_ble_eq_true rfl) (fun X C E ht hn hE hl => by subst hE; exact r_sub [0, 1] rfl (T_X10_find_0 C E ht hn h))
def rm_X10_init : Room := { frames := 1, cells := 24, slots := 194, locals := 20 }
def P_X10_init_0 (Q : HS → Prop) (v0 : Nat) (S : HS) : Prop := ∀ a1 : Nat, a1 ∉ hL S → ∀ S2 : HS, S2 = nW S a1 13 6 → (ob S2 v0 10 ∧ (∀ S3 : HS, S3 = sR S2 v0 7 (some a1) → (∀ a4 : Nat, a4 ∉ hL S3 → ∀ S5 : HS, S5 = nW S3 a4 13 6 → (∀ S6 : HS, S6 = sR S5 v0 8 (some a4) → (∀ a7 : Nat, a7 ∉ hL S6 → ∀ S8 : HS, S8 = nW S6 a7 13 6 → (∀ S9 : HS, S9 = sR S8 v0 9 (some a7) → (∀ a10 : Nat, a10 ∉ hL S9 → ∀ S11 : HS, S11 = nW S9 a10 13 6 → (∀ S12 : HS, S12 = sR S11 v0 10 (some a10) → (∀ a13 : Nat, a13 ∉ hL S12 → ∀ S14 : HS, S14 = nW S12 a13 13 6 → (∀ S15 : HS, S15 = sR S14 v0 11 (some a13) → (∀ a16 : Nat, a16 ∉ hL S15 → ∀ S17 : HS, S17 = nW S15 a16 13 8 → (∀ S18 : HS, S18 = sR S17 v0 12 (some a16) → (∀ a19 : Nat, a19 ∉ hL S18 → ∀ S20 : HS, S20 = nW S18 a19 13 12 → (∀ S21 : HS, S21 = sR S20 v0 13 (some a19) → (∀ a22 : Nat, a22 ∉ hL S21 → ∀ S23 : HS, S23 = nW S21 a22 13 12 → (∀ S24 : HS, S24 = sR S23 v0 14 (some a22) → (∀ a25 : Nat, a25 ∉ hL S24 → ∀ S26 : HS, S26 = nW S24 a25 13 12 → (∀ S27 : HS, S27 = sR S26 v0 15 (some a25) → (∀ a28 : Nat, a28 ∉ hL S27 → ∀ S29 : HS, S29 = nW S27 a28 13 12 → (∀ S30 : HS, S30 = sR S29 v0 16 (some a28) → (∀ a31 : Nat, a31 ∉ hL S30 → ∀ S32 : HS, S32 = nW S30 a31 13 12 → (∀ S33 : HS, S33 = sR S32 v0 17 (some a31) → (∀ a34 : Nat, a34 ∉ hL S33 → ∀ S35 : HS, S35 = nW S33 a34 15 8 → (∀ S36 : HS, S36 = sR S35 v0 18 (some a34) → (∀ a37 : Nat, a37 ∉ hL S36 → ∀ S38 : HS, S38 = nW S36 a37 13 4 → (∀ S39 : HS, S39 = sR S38 v0 19 (some a37) → (∀ a40 : Nat, a40 ∉ hL S39 → ∀ S41 : HS, S41 = nW S39 a40 13 4 → (∀ S42 : HS, S42 = sR S41 v0 20 (some a40) → (∀ a43 : Nat, a43 ∉ hL S42 → ∀ S44 : HS, S44 = nW S42 a43 13 4 → (∀ S45 : HS, S45 = sR S44 v0 21 (some a43) → (∀ a46 : Nat, a46 ∉ hL S45 → ∀ S47 : HS, S47 = nW S45 a46 13 4 → (∀ S48 : HS, S48 = sR S47 v0 22 (some a46) → (∀ a49 : Nat, a49 ∉ hL S48 → ∀ S50 : HS, S50 = nW S48 a49 13 4 → (∀ S51 : HS, S51 = sR S50 v0 23 (some a49) → (∀ a52 : Nat, a52 ∉ hL S51 → ∀ S53 : HS, S53 = nW S51 a52 13 4 → (∀ S54 : HS, S54 = sR S53 v0 24 (some a52) → (∀ a55 : Nat, a55 ∉ hL S54 → ∀ S56 : HS, S56 = nW S54 a55 13 4 → (∀ S57 : HS, S57 = sR S56 v0 25 (some a55) → (∀ a58 : Nat, a58 ∉ hL S57 → ∀ S59 : HS, S59 = nW S57 a58 13 4 → (∀ S60 : HS, S60 = sR S59 v0 26 (some a58) → (∀ a61 : Nat, a61 ∉ hL S60 → ∀ S62 : HS, S62 = nW S60 a61 13 20 → (∀ S63 : HS, S63 = sR S62 v0 27 (some a61) → (∀ a64 : Nat, a64 ∉ hL S63 → ∀ S65 : HS, S65 = nW S63 a64 14 12 → (∀ S66 : HS, S66 = sR S65 v0 28 (some a64) → (∀ a67 : Nat, a67 ∉ hL S66 → ∀ S68 : HS, S68 = nW S66 a67 13 12 → (∀ S69 : HS, S69 = sR S68 v0 29 (some a67) → (∀ a70 : Nat, a70 ∉ hL S69 → ∀ S71 : HS, S71 = nW S69 a70 13 12 → (∀ S72 : HS, S72 = sR S71 v0 30 (some a70) → (Q S72)))))))))))))))))))))))))))))))))))))))))))))))))
set_option maxRecDepth 20000 in
set_option maxHeartbeats 4000000 in
theorem T_X10_init_0 {X : CX} {Q : HS → Prop} (C : Cx X cX10_init RX10 1 rm_X10_init) (E : ReV X rm_X10_init Q) (ht : (xh X).sig.returnType = none) (hn : (xh X).name = yX10_init.name) {v0 : Nat} {S : HS} (h : P_X10_init_0 Q v0 S) : WS X 1 0 0 0 [(0, .ref v0)] [] S := by
  refine r_aload_n (pc := 0) C dX10_init_0 0 rfl ?_
  refine r_objinit (pc := 1) C g_1259 dX10_init_1 (by decide) (Nat.le_of_ble_eq_true rfl) ?_
  refine r_aload_n (pc := 4) C dX10_init_4 0 rfl ?_
  refine r_bipush (pc := 5) C (v := (6 : Int32)) dX10_init_5 (by decide) ?_
  refine r_newa13 (pc := 7) C (N := 6) g_72 dX10_init_7 (by decide) (by decide) (by decide) (by decide) (by decide) (fun a1 q119 => ?_)
  refine r_heap (fun S2 eS2 => ?_)
  have h := h a1 q119 S2 eS2
  have g120 := gr_of_new eS2 q119
  have o_a1 := ob_of_new eS2
  obtain ⟨o_v0, h⟩ := h
  refine r_putFr (pc := 9) C pfL_X10_9 hn dX10_init_9 o_v0 ?_
  refine r_heap (fun S3 eS3 => ?_)
  have h := h S3 eS3
  have o_a1 := ob_R eS3 o_a1
  have o_v0 := ob_R eS3 o_v0
  refine r_aload_n (pc := 12) C dX10_init_12 0 rfl ?_
  refine r_bipush (pc := 13) C (v := (6 : Int32)) dX10_init_13 (by decide) ?_
  refine r_newa13 (pc := 15) C (N := 6) g_72 dX10_init_15 (by decide) (by decide) (by decide) (by decide) (by decide) (fun a4 q117 => ?_)
  refine r_heap (fun S5 eS5 => ?_)
  have h := h a4 q117 S5 eS5
  have g118 := gr_of_new eS5 q117
  have o_a4 := ob_of_new eS5
  have o_a1 := gr_ob g118 o_a1
  have o_v0 := gr_ob g118 o_v0
  refine r_putFr (pc := 17) C pfL_X10_15 hn dX10_init_17 o_v0 ?_
  refine r_heap (fun S6 eS6 => ?_)
  have h := h S6 eS6
  have o_a1 := ob_R eS6 o_a1
  have o_a4 := ob_R eS6 o_a4
  have o_v0 := ob_R eS6 o_v0
  refine r_aload_n (pc := 20) C dX10_init_20 0 rfl ?_
  refine r_bipush (pc := 21) C (v := (6 : Int32)) dX10_init_21 (by decide) ?_
  refine r_newa13 (pc := 23) C (N := 6) g_72 dX10_init_23 (by decide) (by decide) (by decide) (by decide) (by decide) (fun a7 q115 => ?_)
  refine r_heap (fun S8 eS8 => ?_)
  have h := h a7 q115 S8 eS8
  have g116 := gr_of_new eS8 q115
  have o_a7 := ob_of_new eS8
  have o_a1 := gr_ob g116 o_a1
  have o_a4 := gr_ob g116 o_a4
  have o_v0 := gr_ob g116 o_v0
  refine r_putFr (pc := 25) C pfL_X10_18 hn dX10_init_25 o_v0 ?_
  refine r_heap (fun S9 eS9 => ?_)
  have h := h S9 eS9
  have o_a1 := ob_R eS9 o_a1
  have o_a4 := ob_R eS9 o_a4
  have o_a7 := ob_R eS9 o_a7
  have o_v0 := ob_R eS9 o_v0
  refine r_aload_n (pc := 28) C dX10_init_28 0 rfl ?_
  refine r_bipush (pc := 29) C (v := (6 : Int32)) dX10_init_29 (by decide) ?_
  refine r_newa13 (pc := 31) C (N := 6) g_72 dX10_init_31 (by decide) (by decide) (by decide) (by decide) (by decide) (fun a10 q113 => ?_)
  refine r_heap (fun S11 eS11 => ?_)
  have h := h a10 q113 S11 eS11
  have g114 := gr_of_new eS11 q113
  have o_a10 := ob_of_new eS11
  have o_a1 := gr_ob g114 o_a1
  have o_a4 := gr_ob g114 o_a4
  have o_a7 := gr_ob g114 o_a7
  have o_v0 := gr_ob g114 o_v0
  refine r_putFr (pc := 33) C pfL_X10_21 hn dX10_init_33 o_v0 ?_
  refine r_heap (fun S12 eS12 => ?_)
  have h := h S12 eS12
  have o_a1 := ob_R eS12 o_a1
  have o_a10 := ob_R eS12 o_a10
  have o_a4 := ob_R eS12 o_a4
  have o_a7 := ob_R eS12 o_a7
  have o_v0 := ob_R eS12 o_v0
  refine r_aload_n (pc := 36) C dX10_init_36 0 rfl ?_
  refine r_bipush (pc := 37) C (v := (6 : Int32)) dX10_init_37 (by decide) ?_
  refine r_newa13 (pc := 39) C (N := 6) g_72 dX10_init_39 (by decide) (by decide) (by decide) (by decide) (by decide) (fun a13 q111 => ?_)
  refine r_heap (fun S14 eS14 => ?_)
  have h := h a13 q111 S14 eS14
  have g112 := gr_of_new eS14 q111
  have o_a13 := ob_of_new eS14
  have o_a1 := gr_ob g112 o_a1
  have o_a10 := gr_ob g112 o_a10
  have o_a4 := gr_ob g112 o_a4
  have o_a7 := gr_ob g112 o_a7
  have o_v0 := gr_ob g112 o_v0
  refine r_putFr (pc := 41) C pfL_X10_24 hn dX10_init_41 o_v0 ?_
  refine r_heap (fun S15 eS15 => ?_)
  have h := h S15 eS15
  have o_a1 := ob_R eS15 o_a1
  have o_a10 := ob_R eS15 o_a10
  have o_a13 := ob_R eS15 o_a13
  have o_a4 := ob_R eS15 o_a4
  have o_a7 := ob_R eS15 o_a7
  have o_v0 := ob_R eS15 o_v0
  refine r_aload_n (pc := 44) C dX10_init_44 0 rfl ?_
  refine r_bipush (pc := 45) C (v := (8 : Int32)) dX10_init_45 (by decide) ?_
  refine r_newa13 (pc := 47) C (N := 8) g_72 dX10_init_47 (by decide) (by decide) (by decide) (by decide) (by decide) (fun a16 q109 => ?_)
  refine r_heap (fun S17 eS17 => ?_)
  have h := h a16 q109 S17 eS17
  have g110 := gr_of_new eS17 q109
  have o_a16 := ob_of_new eS17
  have o_a1 := gr_ob g110 o_a1
  have o_a10 := gr_ob g110 o_a10
  have o_a13 := gr_ob g110 o_a13
  have o_a4 := gr_ob g110 o_a4
  have o_a7 := gr_ob g110 o_a7
  have o_v0 := gr_ob g110 o_v0
  refine r_putFr (pc := 49) C pfL_X10_27 hn dX10_init_49 o_v0 ?_
  refine r_heap (fun S18 eS18 => ?_)
  have h := h S18 eS18
  have o_a1 := ob_R eS18 o_a1
  have o_a10 := ob_R eS18 o_a10
  have o_a13 := ob_R eS18 o_a13
  have o_a16 := ob_R eS18 o_a16
  have o_a4 := ob_R eS18 o_a4
  have o_a7 := ob_R eS18 o_a7
  have o_v0 := ob_R eS18 o_v0
  refine r_aload_n (pc := 52) C dX10_init_52 0 rfl ?_
  refine r_bipush (pc := 53) C (v := (12 : Int32)) dX10_init_53 (by decide) ?_
  refine r_newa13 (pc := 55) C (N := 12) g_72 dX10_init_55 (by decide) (by decide) (by decide) (by decide) (by decide) (fun a19 q107 => ?_)
  refine r_heap (fun S20 eS20 => ?_)
  have h := h a19 q107 S20 eS20
  have g108 := gr_of_new eS20 q107
  have o_a19 := ob_of_new eS20
  have o_a1 := gr_ob g108 o_a1
  have o_a10 := gr_ob g108 o_a10
  have o_a13 := gr_ob g108 o_a13
  have o_a16 := gr_ob g108 o_a16
  have o_a4 := gr_ob g108 o_a4
  have o_a7 := gr_ob g108 o_a7
  have o_v0 := gr_ob g108 o_v0
  refine r_putFr (pc := 57) C pfL_X10_30 hn dX10_init_57 o_v0 ?_
  refine r_heap (fun S21 eS21 => ?_)
  have h := h S21 eS21
  have o_a1 := ob_R eS21 o_a1
  have o_a10 := ob_R eS21 o_a10
  have o_a13 := ob_R eS21 o_a13
  have o_a16 := ob_R eS21 o_a16
  have o_a19 := ob_R eS21 o_a19
  have o_a4 := ob_R eS21 o_a4
  have o_a7 := ob_R eS21 o_a7
  have o_v0 := ob_R eS21 o_v0
  refine r_aload_n (pc := 60) C dX10_init_60 0 rfl ?_
  refine r_bipush (pc := 61) C (v := (12 : Int32)) dX10_init_61 (by decide) ?_
  refine r_newa13 (pc := 63) C (N := 12) g_72 dX10_init_63 (by decide) (by decide) (by decide) (by decide) (by decide) (fun a22 q105 => ?_)
  refine r_heap (fun S23 eS23 => ?_)
  have h := h a22 q105 S23 eS23
  have g106 := gr_of_new eS23 q105
  have o_a22 := ob_of_new eS23
  have o_a1 := gr_ob g106 o_a1
  have o_a10 := gr_ob g106 o_a10
  have o_a13 := gr_ob g106 o_a13
  have o_a16 := gr_ob g106 o_a16
  have o_a19 := gr_ob g106 o_a19
  have o_a4 := gr_ob g106 o_a4
  have o_a7 := gr_ob g106 o_a7
  have o_v0 := gr_ob g106 o_v0
  refine r_putFr (pc := 65) C pfL_X10_33 hn dX10_init_65 o_v0 ?_
  refine r_heap (fun S24 eS24 => ?_)
  have h := h S24 eS24
  have o_a1 := ob_R eS24 o_a1
  have o_a10 := ob_R eS24 o_a10
  have o_a13 := ob_R eS24 o_a13
  have o_a16 := ob_R eS24 o_a16
  have o_a19 := ob_R eS24 o_a19
  have o_a22 := ob_R eS24 o_a22
  have o_a4 := ob_R eS24 o_a4
  have o_a7 := ob_R eS24 o_a7
  have o_v0 := ob_R eS24 o_v0
  refine r_aload_n (pc := 68) C dX10_init_68 0 rfl ?_
  refine r_bipush (pc := 69) C (v := (12 : Int32)) dX10_init_69 (by decide) ?_
  refine r_newa13 (pc := 71) C (N := 12) g_72 dX10_init_71 (by decide) (by decide) (by decide) (by decide) (by decide) (fun a25 q103 => ?_)
  refine r_heap (fun S26 eS26 => ?_)
  have h := h a25 q103 S26 eS26
  have g104 := gr_of_new eS26 q103
  have o_a25 := ob_of_new eS26
  have o_a1 := gr_ob g104 o_a1
  have o_a10 := gr_ob g104 o_a10
  have o_a13 := gr_ob g104 o_a13
  have o_a16 := gr_ob g104 o_a16
  have o_a19 := gr_ob g104 o_a19
  have o_a22 := gr_ob g104 o_a22
  have o_a4 := gr_ob g104 o_a4
  have o_a7 := gr_ob g104 o_a7
  have o_v0 := gr_ob g104 o_v0
  refine r_putFr (pc := 73) C pfL_X10_36 hn dX10_init_73 o_v0 ?_
  refine r_heap (fun S27 eS27 => ?_)
  have h := h S27 eS27
  have o_a1 := ob_R eS27 o_a1
  have o_a10 := ob_R eS27 o_a10
  have o_a13 := ob_R eS27 o_a13
  have o_a16 := ob_R eS27 o_a16
  have o_a19 := ob_R eS27 o_a19
  have o_a22 := ob_R eS27 o_a22
  have o_a25 := ob_R eS27 o_a25
  have o_a4 := ob_R eS27 o_a4
  have o_a7 := ob_R eS27 o_a7
  have o_v0 := ob_R eS27 o_v0
  refine r_aload_n (pc := 76) C dX10_init_76 0 rfl ?_
  refine r_bipush (pc := 77) C (v := (12 : Int32)) dX10_init_77 (by decide) ?_
  refine r_newa13 (pc := 79) C (N := 12) g_72 dX10_init_79 (by decide) (by decide) (by decide) (by decide) (by decide) (fun a28 q101 => ?_)
  refine r_heap (fun S29 eS29 => ?_)
  have h := h a28 q101 S29 eS29
  have g102 := gr_of_new eS29 q101
  have o_a28 := ob_of_new eS29
  have o_a1 := gr_ob g102 o_a1
  have o_a10 := gr_ob g102 o_a10
  have o_a13 := gr_ob g102 o_a13
  have o_a16 := gr_ob g102 o_a16
  have o_a19 := gr_ob g102 o_a19
  have o_a22 := gr_ob g102 o_a22
  have o_a25 := gr_ob g102 o_a25
  have o_a4 := gr_ob g102 o_a4
  have o_a7 := gr_ob g102 o_a7
  have o_v0 := gr_ob g102 o_v0
  refine r_putFr (pc := 81) C pfL_X10_39 hn dX10_init_81 o_v0 ?_
  refine r_heap (fun S30 eS30 => ?_)
  have h := h S30 eS30
  have o_a1 := ob_R eS30 o_a1
  have o_a10 := ob_R eS30 o_a10
  have o_a13 := ob_R eS30 o_a13
  have o_a16 := ob_R eS30 o_a16
  have o_a19 := ob_R eS30 o_a19
  have o_a22 := ob_R eS30 o_a22
  have o_a25 := ob_R eS30 o_a25
  have o_a28 := ob_R eS30 o_a28
  have o_a4 := ob_R eS30 o_a4
  have o_a7 := ob_R eS30 o_a7
  have o_v0 := ob_R eS30 o_v0
  refine r_aload_n (pc := 84) C dX10_init_84 0 rfl ?_
  refine r_bipush (pc := 85) C (v := (12 : Int32)) dX10_init_85 (by decide) ?_
  refine r_newa13 (pc := 87) C (N := 12) g_72 dX10_init_87 (by decide) (by decide) (by decide) (by decide) (by decide) (fun a31 q99 => ?_)
  refine r_heap (fun S32 eS32 => ?_)
  have h := h a31 q99 S32 eS32
  have g100 := gr_of_new eS32 q99
  have o_a31 := ob_of_new eS32
  have o_a1 := gr_ob g100 o_a1
  have o_a10 := gr_ob g100 o_a10
  have o_a13 := gr_ob g100 o_a13
  have o_a16 := gr_ob g100 o_a16
  have o_a19 := gr_ob g100 o_a19
  have o_a22 := gr_ob g100 o_a22
  have o_a25 := gr_ob g100 o_a25
  have o_a28 := gr_ob g100 o_a28
  have o_a4 := gr_ob g100 o_a4
  have o_a7 := gr_ob g100 o_a7
  have o_v0 := gr_ob g100 o_v0
  refine r_putFr (pc := 89) C pfL_X10_42 hn dX10_init_89 o_v0 ?_
  refine r_heap (fun S33 eS33 => ?_)
  have h := h S33 eS33
  have o_a1 := ob_R eS33 o_a1
  have o_a10 := ob_R eS33 o_a10
  have o_a13 := ob_R eS33 o_a13
  have o_a16 := ob_R eS33 o_a16
  have o_a19 := ob_R eS33 o_a19
  have o_a22 := ob_R eS33 o_a22
  have o_a25 := ob_R eS33 o_a25
  have o_a28 := ob_R eS33 o_a28
  have o_a31 := ob_R eS33 o_a31
  have o_a4 := ob_R eS33 o_a4
  have o_a7 := ob_R eS33 o_a7
  have o_v0 := ob_R eS33 o_v0
  refine r_aload_n (pc := 92) C dX10_init_92 0 rfl ?_
  refine r_bipush (pc := 93) C (v := (8 : Int32)) dX10_init_93 (by decide) ?_
  refine r_newa15 (pc := 95) C (N := 8) g_1379 dX10_init_95 (by decide) (by decide) (by decide) (by decide) (by decide) (fun a34 q97 => ?_)
  refine r_heap (fun S35 eS35 => ?_)
  have h := h a34 q97 S35 eS35
  have g98 := gr_of_new eS35 q97
  have o_a34 := ob_of_new eS35
  have o_a1 := gr_ob g98 o_a1
  have o_a10 := gr_ob g98 o_a10
  have o_a13 := gr_ob g98 o_a13
  have o_a16 := gr_ob g98 o_a16
  have o_a19 := gr_ob g98 o_a19
  have o_a22 := gr_ob g98 o_a22
  have o_a25 := gr_ob g98 o_a25
  have o_a28 := gr_ob g98 o_a28
  have o_a31 := gr_ob g98 o_a31
  have o_a4 := gr_ob g98 o_a4
  have o_a7 := gr_ob g98 o_a7
  have o_v0 := gr_ob g98 o_v0
  refine r_putFr (pc := 97) C pfL_X10_45 hn dX10_init_97 o_v0 ?_
  refine r_heap (fun S36 eS36 => ?_)
  have h := h S36 eS36
  have o_a1 := ob_R eS36 o_a1
  have o_a10 := ob_R eS36 o_a10
  have o_a13 := ob_R eS36 o_a13
  have o_a16 := ob_R eS36 o_a16
  have o_a19 := ob_R eS36 o_a19
  have o_a22 := ob_R eS36 o_a22
  have o_a25 := ob_R eS36 o_a25
  have o_a28 := ob_R eS36 o_a28
  have o_a31 := ob_R eS36 o_a31
  have o_a34 := ob_R eS36 o_a34
  have o_a4 := ob_R eS36 o_a4
  have o_a7 := ob_R eS36 o_a7
  have o_v0 := ob_R eS36 o_v0
  refine r_aload_n (pc := 100) C dX10_init_100 0 rfl ?_
  refine r_iconst (pc := 101) C (v := (4 : Int32)) dX10_init_101 (by decide) ?_
  refine r_newa13 (pc := 102) C (N := 4) g_72 dX10_init_102 (by decide) (by decide) (by decide) (by decide) (by decide) (fun a37 q95 => ?_)
  refine r_heap (fun S38 eS38 => ?_)
  have h := h a37 q95 S38 eS38
  have g96 := gr_of_new eS38 q95
  have o_a37 := ob_of_new eS38
  have o_a1 := gr_ob g96 o_a1
  have o_a10 := gr_ob g96 o_a10
  have o_a13 := gr_ob g96 o_a13
  have o_a16 := gr_ob g96 o_a16
  have o_a19 := gr_ob g96 o_a19
  have o_a22 := gr_ob g96 o_a22
  have o_a25 := gr_ob g96 o_a25
  have o_a28 := gr_ob g96 o_a28
  have o_a31 := gr_ob g96 o_a31
  have o_a34 := gr_ob g96 o_a34
  have o_a4 := gr_ob g96 o_a4
  have o_a7 := gr_ob g96 o_a7
  have o_v0 := gr_ob g96 o_v0
  refine r_putFr (pc := 104) C pfL_X10_49 hn dX10_init_104 o_v0 ?_
  refine r_heap (fun S39 eS39 => ?_)
  have h := h S39 eS39
  have o_a1 := ob_R eS39 o_a1
  have o_a10 := ob_R eS39 o_a10
  have o_a13 := ob_R eS39 o_a13
  have o_a16 := ob_R eS39 o_a16
  have o_a19 := ob_R eS39 o_a19
  have o_a22 := ob_R eS39 o_a22
  have o_a25 := ob_R eS39 o_a25
  have o_a28 := ob_R eS39 o_a28
  have o_a31 := ob_R eS39 o_a31
  have o_a34 := ob_R eS39 o_a34
  have o_a37 := ob_R eS39 o_a37
  have o_a4 := ob_R eS39 o_a4
  have o_a7 := ob_R eS39 o_a7
  have o_v0 := ob_R eS39 o_v0
  refine r_aload_n (pc := 107) C dX10_init_107 0 rfl ?_
  refine r_iconst (pc := 108) C (v := (4 : Int32)) dX10_init_108 (by decide) ?_
  refine r_newa13 (pc := 109) C (N := 4) g_72 dX10_init_109 (by decide) (by decide) (by decide) (by decide) (by decide) (fun a40 q93 => ?_)
  refine r_heap (fun S41 eS41 => ?_)
  have h := h a40 q93 S41 eS41
  have g94 := gr_of_new eS41 q93
  have o_a40 := ob_of_new eS41
  have o_a1 := gr_ob g94 o_a1
  have o_a10 := gr_ob g94 o_a10
  have o_a13 := gr_ob g94 o_a13
  have o_a16 := gr_ob g94 o_a16
  have o_a19 := gr_ob g94 o_a19
  have o_a22 := gr_ob g94 o_a22
  have o_a25 := gr_ob g94 o_a25
  have o_a28 := gr_ob g94 o_a28
  have o_a31 := gr_ob g94 o_a31
  have o_a34 := gr_ob g94 o_a34
  have o_a37 := gr_ob g94 o_a37
  have o_a4 := gr_ob g94 o_a4
  have o_a7 := gr_ob g94 o_a7
  have o_v0 := gr_ob g94 o_v0
  refine r_putFr (pc := 111) C pfL_X10_52 hn dX10_init_111 o_v0 ?_
  refine r_heap (fun S42 eS42 => ?_)
  have h := h S42 eS42
  have o_a1 := ob_R eS42 o_a1
  have o_a10 := ob_R eS42 o_a10
  have o_a13 := ob_R eS42 o_a13
  have o_a16 := ob_R eS42 o_a16
  have o_a19 := ob_R eS42 o_a19
  have o_a22 := ob_R eS42 o_a22
  have o_a25 := ob_R eS42 o_a25
  have o_a28 := ob_R eS42 o_a28
  have o_a31 := ob_R eS42 o_a31
  have o_a34 := ob_R eS42 o_a34
  have o_a37 := ob_R eS42 o_a37
  have o_a4 := ob_R eS42 o_a4
  have o_a40 := ob_R eS42 o_a40
  have o_a7 := ob_R eS42 o_a7
  have o_v0 := ob_R eS42 o_v0
  refine r_aload_n (pc := 114) C dX10_init_114 0 rfl ?_
  refine r_iconst (pc := 115) C (v := (4 : Int32)) dX10_init_115 (by decide) ?_
  refine r_newa13 (pc := 116) C (N := 4) g_72 dX10_init_116 (by decide) (by decide) (by decide) (by decide) (by decide) (fun a43 q91 => ?_)
  refine r_heap (fun S44 eS44 => ?_)
  have h := h a43 q91 S44 eS44
  have g92 := gr_of_new eS44 q91
  have o_a43 := ob_of_new eS44
  have o_a1 := gr_ob g92 o_a1
  have o_a10 := gr_ob g92 o_a10
  have o_a13 := gr_ob g92 o_a13
  have o_a16 := gr_ob g92 o_a16
  have o_a19 := gr_ob g92 o_a19
  have o_a22 := gr_ob g92 o_a22
  have o_a25 := gr_ob g92 o_a25
  have o_a28 := gr_ob g92 o_a28
  have o_a31 := gr_ob g92 o_a31
  have o_a34 := gr_ob g92 o_a34
  have o_a37 := gr_ob g92 o_a37
  have o_a4 := gr_ob g92 o_a4
  have o_a40 := gr_ob g92 o_a40
  have o_a7 := gr_ob g92 o_a7
  have o_v0 := gr_ob g92 o_v0
  refine r_putFr (pc := 118) C pfL_X10_55 hn dX10_init_118 o_v0 ?_
  refine r_heap (fun S45 eS45 => ?_)
  have h := h S45 eS45
  have o_a1 := ob_R eS45 o_a1
  have o_a10 := ob_R eS45 o_a10
  have o_a13 := ob_R eS45 o_a13
  have o_a16 := ob_R eS45 o_a16
  have o_a19 := ob_R eS45 o_a19
  have o_a22 := ob_R eS45 o_a22
  have o_a25 := ob_R eS45 o_a25
  have o_a28 := ob_R eS45 o_a28
  have o_a31 := ob_R eS45 o_a31
  have o_a34 := ob_R eS45 o_a34
  have o_a37 := ob_R eS45 o_a37
  have o_a4 := ob_R eS45 o_a4
  have o_a40 := ob_R eS45 o_a40
  have o_a43 := ob_R eS45 o_a43
  have o_a7 := ob_R eS45 o_a7
  have o_v0 := ob_R eS45 o_v0
  refine r_aload_n (pc := 121) C dX10_init_121 0 rfl ?_
  refine r_iconst (pc := 122) C (v := (4 : Int32)) dX10_init_122 (by decide) ?_
  refine r_newa13 (pc := 123) C (N := 4) g_72 dX10_init_123 (by decide) (by decide) (by decide) (by decide) (by decide) (fun a46 q89 => ?_)
  refine r_heap (fun S47 eS47 => ?_)
  have h := h a46 q89 S47 eS47
  have g90 := gr_of_new eS47 q89
  have o_a46 := ob_of_new eS47
  have o_a1 := gr_ob g90 o_a1
  have o_a10 := gr_ob g90 o_a10
  have o_a13 := gr_ob g90 o_a13
  have o_a16 := gr_ob g90 o_a16
  have o_a19 := gr_ob g90 o_a19
  have o_a22 := gr_ob g90 o_a22
  have o_a25 := gr_ob g90 o_a25
  have o_a28 := gr_ob g90 o_a28
  have o_a31 := gr_ob g90 o_a31
  have o_a34 := gr_ob g90 o_a34
  have o_a37 := gr_ob g90 o_a37
  have o_a4 := gr_ob g90 o_a4
  have o_a40 := gr_ob g90 o_a40
  have o_a43 := gr_ob g90 o_a43
  have o_a7 := gr_ob g90 o_a7
  have o_v0 := gr_ob g90 o_v0
  refine r_putFr (pc := 125) C pfL_X10_58 hn dX10_init_125 o_v0 ?_
  refine r_heap (fun S48 eS48 => ?_)
  have h := h S48 eS48
  have o_a1 := ob_R eS48 o_a1
  have o_a10 := ob_R eS48 o_a10
  have o_a13 := ob_R eS48 o_a13
  have o_a16 := ob_R eS48 o_a16
  have o_a19 := ob_R eS48 o_a19
  have o_a22 := ob_R eS48 o_a22
  have o_a25 := ob_R eS48 o_a25
  have o_a28 := ob_R eS48 o_a28
  have o_a31 := ob_R eS48 o_a31
  have o_a34 := ob_R eS48 o_a34
  have o_a37 := ob_R eS48 o_a37
  have o_a4 := ob_R eS48 o_a4
  have o_a40 := ob_R eS48 o_a40
  have o_a43 := ob_R eS48 o_a43
  have o_a46 := ob_R eS48 o_a46
  have o_a7 := ob_R eS48 o_a7
  have o_v0 := ob_R eS48 o_v0
  refine r_aload_n (pc := 128) C dX10_init_128 0 rfl ?_
  refine r_iconst (pc := 129) C (v := (4 : Int32)) dX10_init_129 (by decide) ?_
  refine r_newa13 (pc := 130) C (N := 4) g_72 dX10_init_130 (by decide) (by decide) (by decide) (by decide) (by decide) (fun a49 q87 => ?_)
  refine r_heap (fun S50 eS50 => ?_)
  have h := h a49 q87 S50 eS50
  have g88 := gr_of_new eS50 q87
  have o_a49 := ob_of_new eS50
  have o_a1 := gr_ob g88 o_a1
  have o_a10 := gr_ob g88 o_a10
  have o_a13 := gr_ob g88 o_a13
  have o_a16 := gr_ob g88 o_a16
  have o_a19 := gr_ob g88 o_a19
  have o_a22 := gr_ob g88 o_a22
  have o_a25 := gr_ob g88 o_a25
  have o_a28 := gr_ob g88 o_a28
  have o_a31 := gr_ob g88 o_a31
  have o_a34 := gr_ob g88 o_a34
  have o_a37 := gr_ob g88 o_a37
  have o_a4 := gr_ob g88 o_a4
  have o_a40 := gr_ob g88 o_a40
  have o_a43 := gr_ob g88 o_a43
  have o_a46 := gr_ob g88 o_a46
  have o_a7 := gr_ob g88 o_a7
  have o_v0 := gr_ob g88 o_v0
  refine r_putFr (pc := 132) C pfL_X10_61 hn dX10_init_132 o_v0 ?_
  refine r_heap (fun S51 eS51 => ?_)
  have h := h S51 eS51
  have o_a1 := ob_R eS51 o_a1
  have o_a10 := ob_R eS51 o_a10
  have o_a13 := ob_R eS51 o_a13
  have o_a16 := ob_R eS51 o_a16
  have o_a19 := ob_R eS51 o_a19
  have o_a22 := ob_R eS51 o_a22
  have o_a25 := ob_R eS51 o_a25
  have o_a28 := ob_R eS51 o_a28
  have o_a31 := ob_R eS51 o_a31
  have o_a34 := ob_R eS51 o_a34
  have o_a37 := ob_R eS51 o_a37
  have o_a4 := ob_R eS51 o_a4
  have o_a40 := ob_R eS51 o_a40
  have o_a43 := ob_R eS51 o_a43
  have o_a46 := ob_R eS51 o_a46
  have o_a49 := ob_R eS51 o_a49
  have o_a7 := ob_R eS51 o_a7
  have o_v0 := ob_R eS51 o_v0
  refine r_aload_n (pc := 135) C dX10_init_135 0 rfl ?_
  refine r_iconst (pc := 136) C (v := (4 : Int32)) dX10_init_136 (by decide) ?_
  refine r_newa13 (pc := 137) C (N := 4) g_72 dX10_init_137 (by decide) (by decide) (by decide) (by decide) (by decide) (fun a52 q85 => ?_)
  refine r_heap (fun S53 eS53 => ?_)
  have h := h a52 q85 S53 eS53
  have g86 := gr_of_new eS53 q85
  have o_a52 := ob_of_new eS53
  have o_a1 := gr_ob g86 o_a1
  have o_a10 := gr_ob g86 o_a10
  have o_a13 := gr_ob g86 o_a13
  have o_a16 := gr_ob g86 o_a16
  have o_a19 := gr_ob g86 o_a19
  have o_a22 := gr_ob g86 o_a22
  have o_a25 := gr_ob g86 o_a25
  have o_a28 := gr_ob g86 o_a28
  have o_a31 := gr_ob g86 o_a31
  have o_a34 := gr_ob g86 o_a34
  have o_a37 := gr_ob g86 o_a37
  have o_a4 := gr_ob g86 o_a4
  have o_a40 := gr_ob g86 o_a40
  have o_a43 := gr_ob g86 o_a43
  have o_a46 := gr_ob g86 o_a46
  have o_a49 := gr_ob g86 o_a49
  have o_a7 := gr_ob g86 o_a7
  have o_v0 := gr_ob g86 o_v0
  refine r_putFr (pc := 139) C pfL_X10_64 hn dX10_init_139 o_v0 ?_
  refine r_heap (fun S54 eS54 => ?_)
  have h := h S54 eS54
  have o_a1 := ob_R eS54 o_a1
  have o_a10 := ob_R eS54 o_a10
  have o_a13 := ob_R eS54 o_a13
  have o_a16 := ob_R eS54 o_a16
  have o_a19 := ob_R eS54 o_a19
  have o_a22 := ob_R eS54 o_a22
  have o_a25 := ob_R eS54 o_a25
  have o_a28 := ob_R eS54 o_a28
  have o_a31 := ob_R eS54 o_a31
  have o_a34 := ob_R eS54 o_a34
  have o_a37 := ob_R eS54 o_a37
  have o_a4 := ob_R eS54 o_a4
  have o_a40 := ob_R eS54 o_a40
  have o_a43 := ob_R eS54 o_a43
  have o_a46 := ob_R eS54 o_a46
  have o_a49 := ob_R eS54 o_a49
  have o_a52 := ob_R eS54 o_a52
  have o_a7 := ob_R eS54 o_a7
  have o_v0 := ob_R eS54 o_v0
  refine r_aload_n (pc := 142) C dX10_init_142 0 rfl ?_
  refine r_iconst (pc := 143) C (v := (4 : Int32)) dX10_init_143 (by decide) ?_
  refine r_newa13 (pc := 144) C (N := 4) g_72 dX10_init_144 (by decide) (by decide) (by decide) (by decide) (by decide) (fun a55 q83 => ?_)
  refine r_heap (fun S56 eS56 => ?_)
  have h := h a55 q83 S56 eS56
  have g84 := gr_of_new eS56 q83
  have o_a55 := ob_of_new eS56
  have o_a1 := gr_ob g84 o_a1
  have o_a10 := gr_ob g84 o_a10
  have o_a13 := gr_ob g84 o_a13
  have o_a16 := gr_ob g84 o_a16
  have o_a19 := gr_ob g84 o_a19
  have o_a22 := gr_ob g84 o_a22
  have o_a25 := gr_ob g84 o_a25
  have o_a28 := gr_ob g84 o_a28
  have o_a31 := gr_ob g84 o_a31
  have o_a34 := gr_ob g84 o_a34
  have o_a37 := gr_ob g84 o_a37
  have o_a4 := gr_ob g84 o_a4
  have o_a40 := gr_ob g84 o_a40
  have o_a43 := gr_ob g84 o_a43
  have o_a46 := gr_ob g84 o_a46
  have o_a49 := gr_ob g84 o_a49
  have o_a52 := gr_ob g84 o_a52
  have o_a7 := gr_ob g84 o_a7
  have o_v0 := gr_ob g84 o_v0
  refine r_putFr (pc := 146) C pfL_X10_67 hn dX10_init_146 o_v0 ?_
  refine r_heap (fun S57 eS57 => ?_)
  have h := h S57 eS57
  have o_a1 := ob_R eS57 o_a1
  have o_a10 := ob_R eS57 o_a10
  have o_a13 := ob_R eS57 o_a13
  have o_a16 := ob_R eS57 o_a16
  have o_a19 := ob_R eS57 o_a19
  have o_a22 := ob_R eS57 o_a22
  have o_a25 := ob_R eS57 o_a25
  have o_a28 := ob_R eS57 o_a28
  have o_a31 := ob_R eS57 o_a31
  have o_a34 := ob_R eS57 o_a34
  have o_a37 := ob_R eS57 o_a37
  have o_a4 := ob_R eS57 o_a4
  have o_a40 := ob_R eS57 o_a40
  have o_a43 := ob_R eS57 o_a43
  have o_a46 := ob_R eS57 o_a46
  have o_a49 := ob_R eS57 o_a49
  have o_a52 := ob_R eS57 o_a52
  have o_a55 := ob_R eS57 o_a55
  have o_a7 := ob_R eS57 o_a7
  have o_v0 := ob_R eS57 o_v0
  refine r_aload_n (pc := 149) C dX10_init_149 0 rfl ?_
  refine r_iconst (pc := 150) C (v := (4 : Int32)) dX10_init_150 (by decide) ?_
  refine r_newa13 (pc := 151) C (N := 4) g_72 dX10_init_151 (by decide) (by decide) (by decide) (by decide) (by decide) (fun a58 q81 => ?_)
  refine r_heap (fun S59 eS59 => ?_)
  have h := h a58 q81 S59 eS59
  have g82 := gr_of_new eS59 q81
  have o_a58 := ob_of_new eS59
  have o_a1 := gr_ob g82 o_a1
  have o_a10 := gr_ob g82 o_a10
  have o_a13 := gr_ob g82 o_a13
  have o_a16 := gr_ob g82 o_a16
  have o_a19 := gr_ob g82 o_a19
  have o_a22 := gr_ob g82 o_a22
  have o_a25 := gr_ob g82 o_a25
  have o_a28 := gr_ob g82 o_a28
  have o_a31 := gr_ob g82 o_a31
  have o_a34 := gr_ob g82 o_a34
  have o_a37 := gr_ob g82 o_a37
  have o_a4 := gr_ob g82 o_a4
  have o_a40 := gr_ob g82 o_a40
  have o_a43 := gr_ob g82 o_a43
  have o_a46 := gr_ob g82 o_a46
  have o_a49 := gr_ob g82 o_a49
  have o_a52 := gr_ob g82 o_a52
  have o_a55 := gr_ob g82 o_a55
  have o_a7 := gr_ob g82 o_a7
  have o_v0 := gr_ob g82 o_v0
  refine r_putFr (pc := 153) C pfL_X10_70 hn dX10_init_153 o_v0 ?_
  refine r_heap (fun S60 eS60 => ?_)
  have h := h S60 eS60
  have o_a1 := ob_R eS60 o_a1
  have o_a10 := ob_R eS60 o_a10
  have o_a13 := ob_R eS60 o_a13
  have o_a16 := ob_R eS60 o_a16
  have o_a19 := ob_R eS60 o_a19
  have o_a22 := ob_R eS60 o_a22
  have o_a25 := ob_R eS60 o_a25
  have o_a28 := ob_R eS60 o_a28
  have o_a31 := ob_R eS60 o_a31
  have o_a34 := ob_R eS60 o_a34
  have o_a37 := ob_R eS60 o_a37
  have o_a4 := ob_R eS60 o_a4
  have o_a40 := ob_R eS60 o_a40
  have o_a43 := ob_R eS60 o_a43
  have o_a46 := ob_R eS60 o_a46
  have o_a49 := ob_R eS60 o_a49
  have o_a52 := ob_R eS60 o_a52
  have o_a55 := ob_R eS60 o_a55
  have o_a58 := ob_R eS60 o_a58
  have o_a7 := ob_R eS60 o_a7
  have o_v0 := ob_R eS60 o_v0
  refine r_aload_n (pc := 156) C dX10_init_156 0 rfl ?_
  refine r_bipush (pc := 157) C (v := (20 : Int32)) dX10_init_157 (by decide) ?_
  refine r_newa13 (pc := 159) C (N := 20) g_72 dX10_init_159 (by decide) (by decide) (by decide) (by decide) (by decide) (fun a61 q79 => ?_)
  refine r_heap (fun S62 eS62 => ?_)
  have h := h a61 q79 S62 eS62
  have g80 := gr_of_new eS62 q79
  have o_a61 := ob_of_new eS62
  have o_a1 := gr_ob g80 o_a1
  have o_a10 := gr_ob g80 o_a10
  have o_a13 := gr_ob g80 o_a13
  have o_a16 := gr_ob g80 o_a16
  have o_a19 := gr_ob g80 o_a19
  have o_a22 := gr_ob g80 o_a22
  have o_a25 := gr_ob g80 o_a25
  have o_a28 := gr_ob g80 o_a28
  have o_a31 := gr_ob g80 o_a31
  have o_a34 := gr_ob g80 o_a34
  have o_a37 := gr_ob g80 o_a37
  have o_a4 := gr_ob g80 o_a4
  have o_a40 := gr_ob g80 o_a40
  have o_a43 := gr_ob g80 o_a43
  have o_a46 := gr_ob g80 o_a46
  have o_a49 := gr_ob g80 o_a49
  have o_a52 := gr_ob g80 o_a52
  have o_a55 := gr_ob g80 o_a55
  have o_a58 := gr_ob g80 o_a58
  have o_a7 := gr_ob g80 o_a7
  have o_v0 := gr_ob g80 o_v0
  refine r_putFr (pc := 161) C pfL_X10_73 hn dX10_init_161 o_v0 ?_
  refine r_heap (fun S63 eS63 => ?_)
  have h := h S63 eS63
  have o_a1 := ob_R eS63 o_a1
  have o_a10 := ob_R eS63 o_a10
  have o_a13 := ob_R eS63 o_a13
  have o_a16 := ob_R eS63 o_a16
  have o_a19 := ob_R eS63 o_a19
  have o_a22 := ob_R eS63 o_a22
  have o_a25 := ob_R eS63 o_a25
  have o_a28 := ob_R eS63 o_a28
  have o_a31 := ob_R eS63 o_a31
  have o_a34 := ob_R eS63 o_a34
  have o_a37 := ob_R eS63 o_a37
  have o_a4 := ob_R eS63 o_a4
  have o_a40 := ob_R eS63 o_a40
  have o_a43 := ob_R eS63 o_a43
  have o_a46 := ob_R eS63 o_a46
  have o_a49 := ob_R eS63 o_a49
  have o_a52 := ob_R eS63 o_a52
  have o_a55 := ob_R eS63 o_a55
  have o_a58 := ob_R eS63 o_a58
  have o_a61 := ob_R eS63 o_a61
  have o_a7 := ob_R eS63 o_a7
  have o_v0 := ob_R eS63 o_v0
  refine r_aload_n (pc := 164) C dX10_init_164 0 rfl ?_
  refine r_bipush (pc := 165) C (v := (12 : Int32)) dX10_init_165 (by decide) ?_
  refine r_newa14 (pc := 167) C (N := 12) g_266 dX10_init_167 (by decide) (by decide) (by decide) (by decide) (by decide) (fun a64 q77 => ?_)
  refine r_heap (fun S65 eS65 => ?_)
  have h := h a64 q77 S65 eS65
  have g78 := gr_of_new eS65 q77
  have o_a64 := ob_of_new eS65
  have o_a1 := gr_ob g78 o_a1
  have o_a10 := gr_ob g78 o_a10
  have o_a13 := gr_ob g78 o_a13
  have o_a16 := gr_ob g78 o_a16
  have o_a19 := gr_ob g78 o_a19
  have o_a22 := gr_ob g78 o_a22
  have o_a25 := gr_ob g78 o_a25
  have o_a28 := gr_ob g78 o_a28
  have o_a31 := gr_ob g78 o_a31
  have o_a34 := gr_ob g78 o_a34
  have o_a37 := gr_ob g78 o_a37
  have o_a4 := gr_ob g78 o_a4
  have o_a40 := gr_ob g78 o_a40
  have o_a43 := gr_ob g78 o_a43
  have o_a46 := gr_ob g78 o_a46
  have o_a49 := gr_ob g78 o_a49
  have o_a52 := gr_ob g78 o_a52
  have o_a55 := gr_ob g78 o_a55
  have o_a58 := gr_ob g78 o_a58
  have o_a61 := gr_ob g78 o_a61
  have o_a7 := gr_ob g78 o_a7
  have o_v0 := gr_ob g78 o_v0
  refine r_putFr (pc := 169) C pfL_X10_76 hn dX10_init_169 o_v0 ?_
  refine r_heap (fun S66 eS66 => ?_)
  have h := h S66 eS66
  have o_a1 := ob_R eS66 o_a1
  have o_a10 := ob_R eS66 o_a10
  have o_a13 := ob_R eS66 o_a13
  have o_a16 := ob_R eS66 o_a16
  have o_a19 := ob_R eS66 o_a19
  have o_a22 := ob_R eS66 o_a22
  have o_a25 := ob_R eS66 o_a25
  have o_a28 := ob_R eS66 o_a28
  have o_a31 := ob_R eS66 o_a31
  have o_a34 := ob_R eS66 o_a34
  have o_a37 := ob_R eS66 o_a37
  have o_a4 := ob_R eS66 o_a4
  have o_a40 := ob_R eS66 o_a40
  have o_a43 := ob_R eS66 o_a43
  have o_a46 := ob_R eS66 o_a46
  have o_a49 := ob_R eS66 o_a49
  have o_a52 := ob_R eS66 o_a52
  have o_a55 := ob_R eS66 o_a55
  have o_a58 := ob_R eS66 o_a58
  have o_a61 := ob_R eS66 o_a61
  have o_a64 := ob_R eS66 o_a64
  have o_a7 := ob_R eS66 o_a7
  have o_v0 := ob_R eS66 o_v0
  refine r_aload_n (pc := 172) C dX10_init_172 0 rfl ?_
  refine r_bipush (pc := 173) C (v := (12 : Int32)) dX10_init_173 (by decide) ?_
  refine r_newa13 (pc := 175) C (N := 12) g_72 dX10_init_175 (by decide) (by decide) (by decide) (by decide) (by decide) (fun a67 q75 => ?_)
  refine r_heap (fun S68 eS68 => ?_)
  have h := h a67 q75 S68 eS68
  have g76 := gr_of_new eS68 q75
  have o_a67 := ob_of_new eS68
  have o_a1 := gr_ob g76 o_a1
  have o_a10 := gr_ob g76 o_a10
  have o_a13 := gr_ob g76 o_a13
  have o_a16 := gr_ob g76 o_a16
  have o_a19 := gr_ob g76 o_a19
  have o_a22 := gr_ob g76 o_a22
  have o_a25 := gr_ob g76 o_a25
  have o_a28 := gr_ob g76 o_a28
  have o_a31 := gr_ob g76 o_a31
  have o_a34 := gr_ob g76 o_a34
  have o_a37 := gr_ob g76 o_a37
  have o_a4 := gr_ob g76 o_a4
  have o_a40 := gr_ob g76 o_a40
  have o_a43 := gr_ob g76 o_a43
  have o_a46 := gr_ob g76 o_a46
  have o_a49 := gr_ob g76 o_a49
  have o_a52 := gr_ob g76 o_a52
  have o_a55 := gr_ob g76 o_a55
  have o_a58 := gr_ob g76 o_a58
  have o_a61 := gr_ob g76 o_a61
  have o_a64 := gr_ob g76 o_a64
  have o_a7 := gr_ob g76 o_a7
  have o_v0 := gr_ob g76 o_v0
  refine r_putFr (pc := 177) C pfL_X10_80 hn dX10_init_177 o_v0 ?_
  refine r_heap (fun S69 eS69 => ?_)
  have h := h S69 eS69
  have o_a1 := ob_R eS69 o_a1
  have o_a10 := ob_R eS69 o_a10
  have o_a13 := ob_R eS69 o_a13
  have o_a16 := ob_R eS69 o_a16
  have o_a19 := ob_R eS69 o_a19
  have o_a22 := ob_R eS69 o_a22
  have o_a25 := ob_R eS69 o_a25
  have o_a28 := ob_R eS69 o_a28
  have o_a31 := ob_R eS69 o_a31
  have o_a34 := ob_R eS69 o_a34
  have o_a37 := ob_R eS69 o_a37
  have o_a4 := ob_R eS69 o_a4
  have o_a40 := ob_R eS69 o_a40
  have o_a43 := ob_R eS69 o_a43
  have o_a46 := ob_R eS69 o_a46
  have o_a49 := ob_R eS69 o_a49
  have o_a52 := ob_R eS69 o_a52
  have o_a55 := ob_R eS69 o_a55
  have o_a58 := ob_R eS69 o_a58
  have o_a61 := ob_R eS69 o_a61
  have o_a64 := ob_R eS69 o_a64
  have o_a67 := ob_R eS69 o_a67
  have o_a7 := ob_R eS69 o_a7
  have o_v0 := ob_R eS69 o_v0
  refine r_aload_n (pc := 180) C dX10_init_180 0 rfl ?_
  refine r_bipush (pc := 181) C (v := (12 : Int32)) dX10_init_181 (by decide) ?_
  refine r_newa13 (pc := 183) C (N := 12) g_72 dX10_init_183 (by decide) (by decide) (by decide) (by decide) (by decide) (fun a70 q73 => ?_)
  refine r_heap (fun S71 eS71 => ?_)
  have h := h a70 q73 S71 eS71
  have g74 := gr_of_new eS71 q73
  have o_a70 := ob_of_new eS71
  have o_a1 := gr_ob g74 o_a1
  have o_a10 := gr_ob g74 o_a10
  have o_a13 := gr_ob g74 o_a13
  have o_a16 := gr_ob g74 o_a16
  have o_a19 := gr_ob g74 o_a19
  have o_a22 := gr_ob g74 o_a22
  have o_a25 := gr_ob g74 o_a25
  have o_a28 := gr_ob g74 o_a28
  have o_a31 := gr_ob g74 o_a31
  have o_a34 := gr_ob g74 o_a34
  have o_a37 := gr_ob g74 o_a37
  have o_a4 := gr_ob g74 o_a4
  have o_a40 := gr_ob g74 o_a40
  have o_a43 := gr_ob g74 o_a43
  have o_a46 := gr_ob g74 o_a46
  have o_a49 := gr_ob g74 o_a49
  have o_a52 := gr_ob g74 o_a52
  have o_a55 := gr_ob g74 o_a55
  have o_a58 := gr_ob g74 o_a58
  have o_a61 := gr_ob g74 o_a61
  have o_a64 := gr_ob g74 o_a64
  have o_a67 := gr_ob g74 o_a67
  have o_a7 := gr_ob g74 o_a7
  have o_v0 := gr_ob g74 o_v0
  refine r_putFr (pc := 185) C pfL_X10_83 hn dX10_init_185 o_v0 ?_
  refine r_heap (fun S72 eS72 => ?_)
  have h := h S72 eS72
  have o_a1 := ob_R eS72 o_a1
  have o_a10 := ob_R eS72 o_a10
  have o_a13 := ob_R eS72 o_a13
  have o_a16 := ob_R eS72 o_a16
  have o_a19 := ob_R eS72 o_a19
  have o_a22 := ob_R eS72 o_a22
  have o_a25 := ob_R eS72 o_a25
  have o_a28 := ob_R eS72 o_a28
  have o_a31 := ob_R eS72 o_a31
  have o_a34 := ob_R eS72 o_a34
  have o_a37 := ob_R eS72 o_a37
  have o_a4 := ob_R eS72 o_a4
  have o_a40 := ob_R eS72 o_a40
  have o_a43 := ob_R eS72 o_a43
  have o_a46 := ob_R eS72 o_a46
  have o_a49 := ob_R eS72 o_a49
  have o_a52 := ob_R eS72 o_a52
  have o_a55 := ob_R eS72 o_a55
  have o_a58 := ob_R eS72 o_a58
  have o_a61 := ob_R eS72 o_a61
  have o_a64 := ob_R eS72 o_a64
  have o_a67 := ob_R eS72 o_a67
  have o_a7 := ob_R eS72 o_a7
  have o_a70 := ob_R eS72 o_a70
  have o_v0 := ob_R eS72 o_v0
  exact r_vret (pc := 188) C E ht dX10_init_188 (by decide) (by decide) h
def P_X10_init (v0 : Nat) (Q : HS → Prop) (S : HS) : Prop := P_X10_init_0 Q v0 S
theorem c_X10_init {l : Launch} {Ee : EE} {S : HS} {v0 : Nat} {Q : HS → Prop} (h : P_X10_init v0 Q S) : MV l yX10_init cX10_init 1 none rm_X10_init Ee S [.ref v0] Q :=
  openV (by decide) (Nat.le_of_ble_eq_true rfl) (fun X C E ht hn hE hl => by subst hE; exact r_sub [0] rfl (T_X10_init_0 C E ht hn h))
end
section
def rm_X10_minutes : Room := { frames := 0, cells := 0, slots := 0, locals := 0 }
def P_X10_minutes_0 (Q : Int32 → HS → Prop) (v0 : Nat) (v1 : Int32) (v2 : Int32) (S : HS) : Prop := ob S v0 10 ∧ (∃ a1 : Nat, fR S v0 16 = some a1 ∧ (ob S a1 13 ∧ (vp_in v1 (hN S a1) ∧ ∀ x3 : Int32, x3 = fI S a1 v1.toNatClampNeg → (¬ v2 = 0 ∧ ∀ x5 : Int32, x5 = ((x3 + v2) - (1 : Int32)) / v2 → (Q x5 S)))))
set_option maxRecDepth 20000 in
set_option maxHeartbeats 4000000 in
theorem T_X10_minutes_0 {X : CX} {Q : Int32 → HS → Prop} (C : Cx X cX10_minutes RX10 3 rm_X10_minutes) (E : ReI X rm_X10_minutes Q) (ht : (xh X).sig.returnType = (some .int)) (hn : (xh X).name = yX10_minutes.name) {v0 : Nat} {v1 : Int32} {v2 : Int32} {S : HS} (h : P_X10_minutes_0 Q v0 v1 v2 S) : WS X 3 0 0 0 [(0, .ref v0), (1, .int v1), (2, .int v2)] [] S := by
  refine r_aload_n (pc := 0) C dX10_minutes_0 0 rfl ?_
  obtain ⟨o_v0, h⟩ := h
  obtain ⟨a1, ea1, h⟩ := h
  refine r_getr (pc := 1) C fL_X10_39 dX10_minutes_1 o_v0 ea1 ?_
  refine r_iload_n (pc := 4) C dX10_minutes_4 1 rfl ?_
  obtain ⟨o_a1, h⟩ := h
  obtain ⟨i2, h⟩ := h
  refine r_iald (pc := 5) C dX10_minutes_5 o_a1 i2 ?_
  refine r_topi (fun x3 ex3 => ?_)
  have h := h x3 ex3
  refine r_iload_n (pc := 6) C dX10_minutes_6 2 rfl ?_
  refine r_iadd (pc := 7) C dX10_minutes_7 ?_
  refine r_iconst (pc := 8) C (v := (1 : Int32)) dX10_minutes_8 (by decide) ?_
  refine r_isub (pc := 9) C dX10_minutes_9 ?_
  refine r_iload_n (pc := 10) C dX10_minutes_10 2 rfl ?_
  obtain ⟨q4, h⟩ := h
  refine r_idiv (pc := 11) C dX10_minutes_11 q4 ?_
  refine r_topi (fun x5 ex5 => ?_)
  have h := h x5 ex5
  exact r_iret (pc := 12) C E ht dX10_minutes_12 (by decide) (by decide) h
def P_X10_minutes (v0 : Nat) (v1 : Int32) (v2 : Int32) (Q : Int32 → HS → Prop) (S : HS) : Prop := P_X10_minutes_0 Q v0 v1 v2 S
theorem c_X10_minutes {l : Launch} {Ee : EE} {S : HS} {v0 : Nat} {v1 : Int32} {v2 : Int32} {Q : Int32 → HS → Prop} (h : P_X10_minutes v0 v1 v2 Q S) : MI l yX10_minutes cX10_minutes 3 (some .int) rm_X10_minutes Ee S [.ref v0, .int v1, .int v2] Q :=
  openI (by decide) (Nat.le_of_ble_eq_true rfl) (fun X C E ht hn hE hl => by subst hE; exact r_sub [0, 1, 2] rfl (T_X10_minutes_0 C E ht hn h))
def rm_X10_shield : Room := { frames := 0, cells := 0, slots := 0, locals := 0 }
def P_X10_shield_0 (Q : Int32 → HS → Prop) (v0 : Nat) (v1 : Int32) (S : HS) : Prop := ob S v0 10 ∧ (∃ a1 : Nat, fR S v0 19 = some a1 ∧ (ob S a1 13 ∧ (vp_in v1 (hN S a1) ∧ ∀ x3 : Int32, x3 = fI S a1 v1.toNatClampNeg → (((¬ x3 = (3 : Int32)) → (Q (0 : Int32) S)) ∧ ((x3 = (3 : Int32)) → (∃ a5 : Nat, fR S v0 20 = some a5 ∧ (ob S a5 13 ∧ (vp_in v1 (hN S a5) ∧ ∀ x7 : Int32, x7 = fI S a5 v1.toNatClampNeg → (Q x7 S)))))))))
set_option maxRecDepth 20000 in
set_option maxHeartbeats 4000000 in
theorem T_X10_shield_0 {X : CX} {Q : Int32 → HS → Prop} (C : Cx X cX10_shield RX10 2 rm_X10_shield) (E : ReI X rm_X10_shield Q) (ht : (xh X).sig.returnType = (some .int)) (hn : (xh X).name = yX10_shield.name) {v0 : Nat} {v1 : Int32} {S : HS} (h : P_X10_shield_0 Q v0 v1 S) : WS X 2 0 0 0 [(0, .ref v0), (1, .int v1)] [] S := by
  refine r_aload_n (pc := 0) C dX10_shield_0 0 rfl ?_
  obtain ⟨o_v0, h⟩ := h
  obtain ⟨a1, ea1, h⟩ := h
  refine r_getr (pc := 1) C fL_X10_49 dX10_shield_1 o_v0 ea1 ?_
  refine r_iload_n (pc := 4) C dX10_shield_4 1 rfl ?_
  obtain ⟨o_a1, h⟩ := h
  obtain ⟨i2, h⟩ := h
  refine r_iald (pc := 5) C dX10_shield_5 o_a1 i2 ?_
  refine r_topi (fun x3 ex3 => ?_)
  have h := h x3 ex3
  refine r_iconst (pc := 6) C (v := (3 : Int32)) dX10_shield_6 (by decide) ?_
  refine r_icmp_ne (pc := 7) C (tgt := 19) dX10_shield_7 (by decide) (fun c4 => ?_) (fun c4 => ?_)
  · have h := h.1 c4
    refine r_iconst (pc := 19) C (v := (0 : Int32)) dX10_shield_19 (by decide) ?_
    exact r_iret (pc := 20) C E ht dX10_shield_20 (by decide) (by decide) h
  · have h := h.2 c4
    refine r_aload_n (pc := 10) C dX10_shield_10 0 rfl ?_
    obtain ⟨a5, ea5, h⟩ := h
    refine r_getr (pc := 11) C fL_X10_52 dX10_shield_11 o_v0 ea5 ?_
    refine r_iload_n (pc := 14) C dX10_shield_14 1 rfl ?_
    obtain ⟨o_a5, h⟩ := h
    obtain ⟨i6, h⟩ := h
    refine r_iald (pc := 15) C dX10_shield_15 o_a5 i6 ?_
    refine r_topi (fun x7 ex7 => ?_)
    have h := h x7 ex7
    refine r_goto (pc := 16) C (tgt := 20) dX10_shield_16 (by decide) ?_
    exact r_iret (pc := 20) C E ht dX10_shield_20 (by decide) (by decide) h
def P_X10_shield (v0 : Nat) (v1 : Int32) (Q : Int32 → HS → Prop) (S : HS) : Prop := P_X10_shield_0 Q v0 v1 S
theorem c_X10_shield {l : Launch} {Ee : EE} {S : HS} {v0 : Nat} {v1 : Int32} {Q : Int32 → HS → Prop} (h : P_X10_shield v0 v1 Q S) : MI l yX10_shield cX10_shield 2 (some .int) rm_X10_shield Ee S [.ref v0, .int v1] Q :=
  openI (by decide) (Nat.le_of_ble_eq_true rfl) (fun X C E ht hn hE hl => by subst hE; exact r_sub [0, 1] rfl (T_X10_shield_0 C E ht hn h))
def rm_X11_good : Room := { frames := 0, cells := 0, slots := 0, locals := 0 }
def P_X11_good_0 (Q : Int32 → HS → Prop) (v0 : Nat) (v1 : Int32) (S : HS) : Prop := ob S v0 11 ∧ (∀ S1 : HS, S1 = sI S v0 1 (0 : Int32) → (∀ S2 : HS, S2 = sI S1 v0 2 (-1 : Int32) → (Q v1 S2)))
set_option maxRecDepth 20000 in
set_option maxHeartbeats 4000000 in
theorem T_X11_good_0 {X : CX} {Q : Int32 → HS → Prop} (C : Cx X cX11_good RX11 2 rm_X11_good) (E : ReI X rm_X11_good Q) (ht : (xh X).sig.returnType = (some .int)) (hn : (xh X).name = yX11_good.name) {v0 : Nat} {v1 : Int32} {S : HS} (h : P_X11_good_0 Q v0 v1 S) : WS X 2 0 0 0 [(0, .ref v0), (1, .int v1)] [] S := by
  refine r_aload_n (pc := 0) C dX11_good_0 0 rfl ?_
  refine r_iconst (pc := 1) C (v := (0 : Int32)) dX11_good_1 (by decide) ?_
  obtain ⟨o_v0, h⟩ := h
  refine r_puti (pc := 2) C pfL_X11_43 dX11_good_2 o_v0 ?_
  refine r_heap (fun S1 eS1 => ?_)
  have h := h S1 eS1
  have o_v0 := ob_I eS1 o_v0
  refine r_aload_n (pc := 5) C dX11_good_5 0 rfl ?_
  refine r_iconst (pc := 6) C (v := (-1 : Int32)) dX11_good_6 (by decide) ?_
  refine r_puti (pc := 7) C pfL_X11_9 dX11_good_7 o_v0 ?_
  refine r_heap (fun S2 eS2 => ?_)
  have h := h S2 eS2
  have o_v0 := ob_I eS2 o_v0
  refine r_iload_n (pc := 10) C dX11_good_10 1 rfl ?_
  exact r_iret (pc := 11) C E ht dX11_good_11 (by decide) (by decide) h
def P_X11_good (v0 : Nat) (v1 : Int32) (Q : Int32 → HS → Prop) (S : HS) : Prop := P_X11_good_0 Q v0 v1 S
theorem c_X11_good {l : Launch} {Ee : EE} {S : HS} {v0 : Nat} {v1 : Int32} {Q : Int32 → HS → Prop} (h : P_X11_good v0 v1 Q S) : MI l yX11_good cX11_good 2 (some .int) rm_X11_good Ee S [.ref v0, .int v1] Q :=
  openI (by decide) (Nat.le_of_ble_eq_true rfl) (fun X C E ht hn hE hl => by subst hE; exact r_sub [0, 1] rfl (T_X11_good_0 C E ht hn h))
def rm_X11_in : Room := { frames := 0, cells := 0, slots := 0, locals := 0 }
def P_X11_in_0 (Q : Int32 → HS → Prop) (v0 : Int32) (v1 : Int32) (v2 : Int32) (S : HS) : Prop := ((v0 < v1) → (Q (0 : Int32) S)) ∧ ((¬ v0 < v1) → (((v2 < v0) → (Q (0 : Int32) S)) ∧ ((¬ v2 < v0) → (Q (1 : Int32) S))))
set_option maxRecDepth 20000 in
set_option maxHeartbeats 4000000 in
theorem T_X11_in_0 {X : CX} {Q : Int32 → HS → Prop} (C : Cx X cX11_in RX11 3 rm_X11_in) (E : ReI X rm_X11_in (fun r S => bl r ∧ Q r S)) (ht : (xh X).sig.returnType = (some .boolean)) (hn : (xh X).name = yX11_in.name) {v0 : Int32} {v1 : Int32} {v2 : Int32} {S : HS} (h : P_X11_in_0 Q v0 v1 v2 S) : WS X 3 0 0 0 [(0, .int v0), (1, .int v1), (2, .int v2)] [] S := by
  refine r_iload_n (pc := 0) C dX11_in_0 0 rfl ?_
  refine r_iload_n (pc := 1) C dX11_in_1 1 rfl ?_
  refine r_icmp_lt (pc := 2) C (tgt := 14) dX11_in_2 (by decide) (fun c1 => ?_) (fun c1 => ?_)
  · have h := h.1 c1
    refine r_iconst (pc := 14) C (v := (0 : Int32)) dX11_in_14 (by decide) ?_
    exact r_zret (pc := 15) C E ht dX11_in_15 (by decide) (by decide) (Or.inl rfl) h
  · have h := h.2 c1
    refine r_iload_n (pc := 5) C dX11_in_5 0 rfl ?_
    refine r_iload_n (pc := 6) C dX11_in_6 2 rfl ?_
    refine r_icmp_gt (pc := 7) C (tgt := 14) dX11_in_7 (by decide) (fun c2 => ?_) (fun c2 => ?_)
    · have h := h.1 c2
      refine r_iconst (pc := 14) C (v := (0 : Int32)) dX11_in_14 (by decide) ?_
      exact r_zret (pc := 15) C E ht dX11_in_15 (by decide) (by decide) (Or.inl rfl) h
    · have h := h.2 c2
      refine r_iconst (pc := 10) C (v := (1 : Int32)) dX11_in_10 (by decide) ?_
      refine r_goto (pc := 11) C (tgt := 15) dX11_in_11 (by decide) ?_
      exact r_zret (pc := 15) C E ht dX11_in_15 (by decide) (by decide) (Or.inr rfl) h
def P_X11_in (v0 : Int32) (v1 : Int32) (v2 : Int32) (Q : Int32 → HS → Prop) (S : HS) : Prop := P_X11_in_0 Q v0 v1 v2 S
theorem c_X11_in {l : Launch} {Ee : EE} {S : HS} {v0 : Int32} {v1 : Int32} {v2 : Int32} {Q : Int32 → HS → Prop} (h : P_X11_in v0 v1 v2 Q S) : MI l yX11_in cX11_in 3 (some .boolean) rm_X11_in Ee S [.int v0, .int v1, .int v2] (fun r S => bl r ∧ Q r S) :=
  openI (by decide) (Nat.le_of_ble_eq_true rfl) (fun X C E ht hn hE hl => by subst hE; exact r_sub [0, 1, 2] rfl (T_X11_in_0 C E ht hn h))
def rm_X11_isHour : Room := { frames := 0, cells := 0, slots := 0, locals := 0 }
def P_X11_isHour_0 (Q : Int32 → HS → Prop) (v0 : Nat) (v1 : Int32) (S : HS) : Prop := ob S v0 11 ∧ ((fR S v0 3 = none → (Q (0 : Int32) S)) ∧ (∀ a1 : Nat, fR S v0 3 = some a1 → (((v1 < 0) → (Q (0 : Int32) S)) ∧ ((¬ v1 < 0) → (∃ a4 : Nat, fR S v0 3 = some a4 ∧ (ob S a4 10 ∧ (∀ x5 : Int32, x5 = fI S a4 1 → (((x5 ≤ v1) → (Q (0 : Int32) S)) ∧ ((¬ x5 ≤ v1) → (Q (1 : Int32) S))))))))))
set_option maxRecDepth 20000 in
set_option maxHeartbeats 4000000 in
theorem T_X11_isHour_0 {X : CX} {Q : Int32 → HS → Prop} (C : Cx X cX11_isHour RX11 2 rm_X11_isHour) (E : ReI X rm_X11_isHour (fun r S => bl r ∧ Q r S)) (ht : (xh X).sig.returnType = (some .boolean)) (hn : (xh X).name = yX11_isHour.name) {v0 : Nat} {v1 : Int32} {S : HS} (h : P_X11_isHour_0 Q v0 v1 S) : WS X 2 0 0 0 [(0, .ref v0), (1, .int v1)] [] S := by
  refine r_aload_n (pc := 0) C dX11_isHour_0 0 rfl ?_
  obtain ⟨o_v0, h⟩ := h
  rcases e2 : fR S v0 3 with _ | a1
  · refine r_get0 (pc := 1) C fL_X11_338 dX11_isHour_1 o_v0 e2 ?_
    refine r_ifnull0 (pc := 4) C (tgt := 26) dX11_isHour_4 (by decide) ?_
    have h := h.1 e2
    refine r_iconst (pc := 26) C (v := (0 : Int32)) dX11_isHour_26 (by decide) ?_
    exact r_zret (pc := 27) C E ht dX11_isHour_27 (by decide) (by decide) (Or.inl rfl) h
  · refine r_getr (pc := 1) C fL_X11_338 dX11_isHour_1 o_v0 e2 ?_
    refine r_ifnull (pc := 4) C dX11_isHour_4 ?_
    have h := h.2 a1 e2
    refine r_iload_n (pc := 7) C dX11_isHour_7 1 rfl ?_
    refine r_if_lt (pc := 8) C (tgt := 26) dX11_isHour_8 (by decide) (fun c3 => ?_) (fun c3 => ?_)
    · have h := h.1 c3
      refine r_iconst (pc := 26) C (v := (0 : Int32)) dX11_isHour_26 (by decide) ?_
      exact r_zret (pc := 27) C E ht dX11_isHour_27 (by decide) (by decide) (Or.inl rfl) h
    · have h := h.2 c3
      refine r_iload_n (pc := 11) C dX11_isHour_11 1 rfl ?_
      refine r_aload_n (pc := 12) C dX11_isHour_12 0 rfl ?_
      obtain ⟨a4, ea4, h⟩ := h
      refine r_getr (pc := 13) C fL_X11_338 dX11_isHour_13 o_v0 ea4 ?_
      obtain ⟨o_a4, h⟩ := h
      refine r_getNi (pc := 16) C fN_X11_219 dX11_isHour_16 o_a4 ?_
      refine r_topi (fun x5 ex5 => ?_)
      have h := h x5 ex5
      refine r_icmp_ge (pc := 19) C (tgt := 26) dX11_isHour_19 (by decide) (fun c6 => ?_) (fun c6 => ?_)
      · have h := h.1 c6
        refine r_iconst (pc := 26) C (v := (0 : Int32)) dX11_isHour_26 (by decide) ?_
        exact r_zret (pc := 27) C E ht dX11_isHour_27 (by decide) (by decide) (Or.inl rfl) h
      · have h := h.2 c6
        refine r_iconst (pc := 22) C (v := (1 : Int32)) dX11_isHour_22 (by decide) ?_
        refine r_goto (pc := 23) C (tgt := 27) dX11_isHour_23 (by decide) ?_
        exact r_zret (pc := 27) C E ht dX11_isHour_27 (by decide) (by decide) (Or.inr rfl) h
def P_X11_isHour (v0 : Nat) (v1 : Int32) (Q : Int32 → HS → Prop) (S : HS) : Prop := P_X11_isHour_0 Q v0 v1 S
theorem c_X11_isHour {l : Launch} {Ee : EE} {S : HS} {v0 : Nat} {v1 : Int32} {Q : Int32 → HS → Prop} (h : P_X11_isHour v0 v1 Q S) : MI l yX11_isHour cX11_isHour 2 (some .boolean) rm_X11_isHour Ee S [.ref v0, .int v1] (fun r S => bl r ∧ Q r S) :=
  openI (by decide) (Nat.le_of_ble_eq_true rfl) (fun X C E ht hn hE hl => by subst hE; exact r_sub [0, 1] rfl (T_X11_isHour_0 C E ht hn h))
def rm_X11_isRoad : Room := { frames := 0, cells := 0, slots := 0, locals := 0 }
def P_X11_isRoad_0 (Q : Int32 → HS → Prop) (v0 : Nat) (v1 : Int32) (S : HS) : Prop := ob S v0 11 ∧ ((fR S v0 3 = none → (Q (0 : Int32) S)) ∧ (∀ a1 : Nat, fR S v0 3 = some a1 → (((v1 < 0) → (Q (0 : Int32) S)) ∧ ((¬ v1 < 0) → (∃ a4 : Nat, fR S v0 3 = some a4 ∧ (ob S a4 10 ∧ (∀ x5 : Int32, x5 = fI S a4 3 → (((x5 ≤ v1) → (Q (0 : Int32) S)) ∧ ((¬ x5 ≤ v1) → (Q (1 : Int32) S))))))))))
set_option maxRecDepth 20000 in
set_option maxHeartbeats 4000000 in
theorem T_X11_isRoad_0 {X : CX} {Q : Int32 → HS → Prop} (C : Cx X cX11_isRoad RX11 2 rm_X11_isRoad) (E : ReI X rm_X11_isRoad (fun r S => bl r ∧ Q r S)) (ht : (xh X).sig.returnType = (some .boolean)) (hn : (xh X).name = yX11_isRoad.name) {v0 : Nat} {v1 : Int32} {S : HS} (h : P_X11_isRoad_0 Q v0 v1 S) : WS X 2 0 0 0 [(0, .ref v0), (1, .int v1)] [] S := by
  refine r_aload_n (pc := 0) C dX11_isRoad_0 0 rfl ?_
  obtain ⟨o_v0, h⟩ := h
  rcases e2 : fR S v0 3 with _ | a1
  · refine r_get0 (pc := 1) C fL_X11_338 dX11_isRoad_1 o_v0 e2 ?_
    refine r_ifnull0 (pc := 4) C (tgt := 26) dX11_isRoad_4 (by decide) ?_
    have h := h.1 e2
    refine r_iconst (pc := 26) C (v := (0 : Int32)) dX11_isRoad_26 (by decide) ?_
    exact r_zret (pc := 27) C E ht dX11_isRoad_27 (by decide) (by decide) (Or.inl rfl) h
  · refine r_getr (pc := 1) C fL_X11_338 dX11_isRoad_1 o_v0 e2 ?_
    refine r_ifnull (pc := 4) C dX11_isRoad_4 ?_
    have h := h.2 a1 e2
    refine r_iload_n (pc := 7) C dX11_isRoad_7 1 rfl ?_
    refine r_if_lt (pc := 8) C (tgt := 26) dX11_isRoad_8 (by decide) (fun c3 => ?_) (fun c3 => ?_)
    · have h := h.1 c3
      refine r_iconst (pc := 26) C (v := (0 : Int32)) dX11_isRoad_26 (by decide) ?_
      exact r_zret (pc := 27) C E ht dX11_isRoad_27 (by decide) (by decide) (Or.inl rfl) h
    · have h := h.2 c3
      refine r_iload_n (pc := 11) C dX11_isRoad_11 1 rfl ?_
      refine r_aload_n (pc := 12) C dX11_isRoad_12 0 rfl ?_
      obtain ⟨a4, ea4, h⟩ := h
      refine r_getr (pc := 13) C fL_X11_338 dX11_isRoad_13 o_v0 ea4 ?_
      obtain ⟨o_a4, h⟩ := h
      refine r_getNi (pc := 16) C fN_X11_264 dX11_isRoad_16 o_a4 ?_
      refine r_topi (fun x5 ex5 => ?_)
      have h := h x5 ex5
      refine r_icmp_ge (pc := 19) C (tgt := 26) dX11_isRoad_19 (by decide) (fun c6 => ?_) (fun c6 => ?_)
      · have h := h.1 c6
        refine r_iconst (pc := 26) C (v := (0 : Int32)) dX11_isRoad_26 (by decide) ?_
        exact r_zret (pc := 27) C E ht dX11_isRoad_27 (by decide) (by decide) (Or.inl rfl) h
      · have h := h.2 c6
        refine r_iconst (pc := 22) C (v := (1 : Int32)) dX11_isRoad_22 (by decide) ?_
        refine r_goto (pc := 23) C (tgt := 27) dX11_isRoad_23 (by decide) ?_
        exact r_zret (pc := 27) C E ht dX11_isRoad_27 (by decide) (by decide) (Or.inr rfl) h
def P_X11_isRoad (v0 : Nat) (v1 : Int32) (Q : Int32 → HS → Prop) (S : HS) : Prop := P_X11_isRoad_0 Q v0 v1 S
theorem c_X11_isRoad {l : Launch} {Ee : EE} {S : HS} {v0 : Nat} {v1 : Int32} {Q : Int32 → HS → Prop} (h : P_X11_isRoad v0 v1 Q S) : MI l yX11_isRoad cX11_isRoad 2 (some .boolean) rm_X11_isRoad Ee S [.ref v0, .int v1] (fun r S => bl r ∧ Q r S) :=
  openI (by decide) (Nat.le_of_ble_eq_true rfl) (fun X C E ht hn hE hl => by subst hE; exact r_sub [0, 1] rfl (T_X11_isRoad_0 C E ht hn h))
def rm_X11_refused : Room := { frames := 0, cells := 0, slots := 0, locals := 0 }
def P_X11_refused_0 (Q : Int32 → HS → Prop) (v0 : Nat) (v1 : Int32) (S : HS) : Prop := ob S v0 11 ∧ (∀ S1 : HS, S1 = sI S v0 1 v1 → (∀ S2 : HS, S2 = sI S1 v0 2 (-1 : Int32) → (Q (-1 : Int32) S2)))
set_option maxRecDepth 20000 in
set_option maxHeartbeats 4000000 in
theorem T_X11_refused_0 {X : CX} {Q : Int32 → HS → Prop} (C : Cx X cX11_refused RX11 2 rm_X11_refused) (E : ReI X rm_X11_refused Q) (ht : (xh X).sig.returnType = (some .int)) (hn : (xh X).name = yX11_refused.name) {v0 : Nat} {v1 : Int32} {S : HS} (h : P_X11_refused_0 Q v0 v1 S) : WS X 2 0 0 0 [(0, .ref v0), (1, .int v1)] [] S := by
  refine r_aload_n (pc := 0) C dX11_refused_0 0 rfl ?_
  refine r_iload_n (pc := 1) C dX11_refused_1 1 rfl ?_
  obtain ⟨o_v0, h⟩ := h
  refine r_puti (pc := 2) C pfL_X11_43 dX11_refused_2 o_v0 ?_
  refine r_heap (fun S1 eS1 => ?_)
  have h := h S1 eS1
  have o_v0 := ob_I eS1 o_v0
  refine r_aload_n (pc := 5) C dX11_refused_5 0 rfl ?_
  refine r_iconst (pc := 6) C (v := (-1 : Int32)) dX11_refused_6 (by decide) ?_
  refine r_puti (pc := 7) C pfL_X11_9 dX11_refused_7 o_v0 ?_
  refine r_heap (fun S2 eS2 => ?_)
  have h := h S2 eS2
  have o_v0 := ob_I eS2 o_v0
  refine r_iconst (pc := 10) C (v := (-1 : Int32)) dX11_refused_10 (by decide) ?_
  exact r_iret (pc := 11) C E ht dX11_refused_11 (by decide) (by decide) h
def P_X11_refused (v0 : Nat) (v1 : Int32) (Q : Int32 → HS → Prop) (S : HS) : Prop := P_X11_refused_0 Q v0 v1 S
theorem c_X11_refused {l : Launch} {Ee : EE} {S : HS} {v0 : Nat} {v1 : Int32} {Q : Int32 → HS → Prop} (h : P_X11_refused v0 v1 Q S) : MI l yX11_refused cX11_refused 2 (some .int) rm_X11_refused Ee S [.ref v0, .int v1] Q :=
  openI (by decide) (Nat.le_of_ble_eq_true rfl) (fun X C E ht hn hE hl => by subst hE; exact r_sub [0, 1] rfl (T_X11_refused_0 C E ht hn h))
def rm_X11_lost : Room := { frames := 1, cells := 0, slots := 0, locals := 21 }
def P_X11_lost_0 (Q : Int32 → HS → Prop) (v0 : Nat) (v1 : Int32) (S : HS) : Prop := ob S v0 11 ∧ (P_X11_refused v0 v1 (fun x3 S1 => Gr S S1 → (Q (-100 : Int32) S1)) S)
set_option maxRecDepth 20000 in
set_option maxHeartbeats 4000000 in
theorem T_X11_lost_0 {X : CX} {Q : Int32 → HS → Prop} (C : Cx X cX11_lost RX11 2 rm_X11_lost) (E : ReI X rm_X11_lost Q) (ht : (xh X).sig.returnType = (some .int)) (hn : (xh X).name = yX11_lost.name) {v0 : Nat} {v1 : Int32} {S : HS} (h : P_X11_lost_0 Q v0 v1 S) : WS X 2 0 0 0 [(0, .ref v0), (1, .int v1)] [] S := by
  refine r_aload_n (pc := 0) C dX11_lost_0 0 rfl ?_
  refine r_iload_n (pc := 1) C dX11_lost_1 1 rfl ?_
  obtain ⟨o_v0, h⟩ := h
  refine r_callVi0 (pc := 2) C (rest := []) (a := v0) o_v0 [.int v1] yV_X11_refused g_1250 (c_X11_refused h) dX11_lost_2 rfl rfl (Nat.le_of_ble_eq_true rfl) ⟨by decide, by decide⟩ ⟨by decide, by decide⟩ ⟨rfl, rfl⟩ (fun x3 S1 h g2 => ?_)
  have h := h g2
  have o_v0 := gr_ob g2 o_v0
  refine r_pop (pc := 5) C dX11_lost_5 rfl ?_
  refine r_bipush (pc := 6) C (v := (-100 : Int32)) dX11_lost_6 (by decide) ?_
  exact r_iret (pc := 8) C E ht dX11_lost_8 (by decide) (by decide) h
def P_X11_lost (v0 : Nat) (v1 : Int32) (Q : Int32 → HS → Prop) (S : HS) : Prop := P_X11_lost_0 Q v0 v1 S
theorem c_X11_lost {l : Launch} {Ee : EE} {S : HS} {v0 : Nat} {v1 : Int32} {Q : Int32 → HS → Prop} (h : P_X11_lost v0 v1 Q S) : MI l yX11_lost cX11_lost 2 (some .int) rm_X11_lost Ee S [.ref v0, .int v1] Q :=
  openI (by decide) (Nat.le_of_ble_eq_true rfl) (fun X C E ht hn hE hl => by subst hE; exact r_sub [0, 1] rfl (T_X11_lost_0 C E ht hn h))
def rm_X11_air : Room := { frames := 2, cells := 0, slots := 0, locals := 46 }
def P_X11_air_30 (Q : Int32 → HS → Prop) (v0 : Nat) (S : HS) : Prop := ob S v0 11 ∧ (P_X11_lost v0 (1 : Int32) (fun x3 S1 => Gr S S1 → (Q x3 S1)) S)
set_option maxRecDepth 20000 in
set_option maxHeartbeats 4000000 in
theorem T_X11_air_30 {X : CX} {Q : Int32 → HS → Prop} (C : Cx X cX11_air RX11 4 rm_X11_air) (E : ReI X rm_X11_air Q) (ht : (xh X).sig.returnType = (some .int)) (hn : (xh X).name = yX11_air.name) {v0 : Nat} {S : HS} (h : P_X11_air_30 Q v0 S) : WS X 4 0 0 30 [(0, .ref v0)] [] S := by
  refine r_aload_n (pc := 30) C dX11_air_30 0 rfl ?_
  refine r_iconst (pc := 31) C (v := (1 : Int32)) dX11_air_31 (by decide) ?_
  obtain ⟨o_v0, h⟩ := h
  refine r_callVi0 (pc := 32) C (rest := []) (a := v0) o_v0 [.int (1 : Int32)] yV_X11_lost g_1615 (c_X11_lost h) dX11_air_32 rfl rfl (Nat.le_of_ble_eq_true rfl) ⟨by decide, by decide⟩ ⟨by decide, by decide⟩ ⟨rfl, rfl⟩ (fun x3 S1 h g2 => ?_)
  have h := h g2
  have o_v0 := gr_ob g2 o_v0
  exact r_iret (pc := 35) C E ht dX11_air_35 (by decide) (by decide) h
def P_X11_air_0 (Q : Int32 → HS → Prop) (v0 : Nat) (v1 : Int32) (v2 : Int32) (v3 : Int32) (S : HS) : Prop := ob S v0 11 ∧ (∀ S1 : HS, S1 = sI S v0 0 (0 : Int32) → (P_X11_isRoad v0 v1 (fun x4 S2 => Gr S1 S2 → bl x4 → (((x4 = 0) → (P_X11_air_30 Q v0 S2)) ∧ ((¬ x4 = 0) → (P_X11_in v2 (0 : Int32) (1 : Int32) (fun x8 S6 => Gr S2 S6 → bl x8 → (((x8 = 0) → (P_X11_air_30 Q v0 S6)) ∧ ((¬ x8 = 0) → (P_X11_isHour v0 v3 (fun x12 S10 => Gr S6 S10 → bl x12 → (((¬ x12 = 0) → (∃ a14 : Nat, fR S10 v0 3 = some a14 ∧ (ob S10 a14 10 ∧ (P_X10_air a14 v1 v2 v3 (fun x17 S15 => Gr S10 S15 → (P_X11_good v0 x17 (fun x20 S18 => Gr S15 S18 → (Q x20 S18)) S15)) S10)))) ∧ ((x12 = 0) → (P_X11_air_30 Q v0 S10)))) S6)))) S2)))) S1))
set_option maxRecDepth 20000 in
set_option maxHeartbeats 4000000 in
theorem T_X11_air_0 {X : CX} {Q : Int32 → HS → Prop} (C : Cx X cX11_air RX11 4 rm_X11_air) (E : ReI X rm_X11_air Q) (ht : (xh X).sig.returnType = (some .int)) (hn : (xh X).name = yX11_air.name) {v0 : Nat} {v1 : Int32} {v2 : Int32} {v3 : Int32} {S : HS} (h : P_X11_air_0 Q v0 v1 v2 v3 S) : WS X 4 0 0 0 [(0, .ref v0), (1, .int v1), (2, .int v2), (3, .int v3)] [] S := by
  refine r_aload_n (pc := 0) C dX11_air_0 0 rfl ?_
  refine r_iconst (pc := 1) C (v := (0 : Int32)) dX11_air_1 (by decide) ?_
  obtain ⟨o_v0, h⟩ := h
  refine r_puti (pc := 2) C pfL_X11_40 dX11_air_2 o_v0 ?_
  refine r_heap (fun S1 eS1 => ?_)
  have h := h S1 eS1
  have o_v0 := ob_I eS1 o_v0
  refine r_aload_n (pc := 5) C dX11_air_5 0 rfl ?_
  refine r_iload_n (pc := 6) C dX11_air_6 1 rfl ?_
  refine r_callVi0 (pc := 7) C (rest := []) (a := v0) o_v0 [.int v1] yV_X11_isRoad g_1542 (c_X11_isRoad h) dX11_air_7 rfl rfl (Nat.le_of_ble_eq_true rfl) ⟨by decide, by decide⟩ ⟨by decide, by decide⟩ ⟨rfl, rfl⟩ (fun x4 S2 h g3 => ?_)
  have bx4 := h.1
  have h := h.2 g3 bx4
  have o_v0 := gr_ob g3 o_v0
  refine r_if_eq (pc := 10) C (tgt := 30) dX11_air_10 (by decide) (fun c5 => ?_) (fun c5 => ?_)
  · have h := h.1 c5
    exact r_sub [0] rfl (T_X11_air_30 C E ht hn h)
  · have h := h.2 c5
    refine r_iload_n (pc := 13) C dX11_air_13 2 rfl ?_
    refine r_iconst (pc := 14) C (v := (0 : Int32)) dX11_air_14 (by decide) ?_
    refine r_iconst (pc := 15) C (v := (1 : Int32)) dX11_air_15 (by decide) ?_
    refine r_callSi0 (pc := 16) C (rest := []) rfl [.int v2, .int (0 : Int32), .int (1 : Int32)] yS_X11_in g_1434 (c_X11_in h) dX11_air_16 rfl rfl (Nat.le_of_ble_eq_true rfl) ⟨by decide, by decide⟩ ⟨by decide, by decide⟩ ⟨rfl, rfl⟩ (fun x8 S6 h g7 => ?_)
    have bx8 := h.1
    have h := h.2 g7 bx8
    have o_v0 := gr_ob g7 o_v0
    refine r_if_eq (pc := 19) C (tgt := 30) dX11_air_19 (by decide) (fun c9 => ?_) (fun c9 => ?_)
    · have h := h.1 c9
      exact r_sub [0] rfl (T_X11_air_30 C E ht hn h)
    · have h := h.2 c9
      refine r_aload_n (pc := 22) C dX11_air_22 0 rfl ?_
      refine r_iload_n (pc := 23) C dX11_air_23 3 rfl ?_
      refine r_callVi0 (pc := 24) C (rest := []) (a := v0) o_v0 [.int v3] yV_X11_isHour g_1546 (c_X11_isHour h) dX11_air_24 rfl rfl (Nat.le_of_ble_eq_true rfl) ⟨by decide, by decide⟩ ⟨by decide, by decide⟩ ⟨rfl, rfl⟩ (fun x12 S10 h g11 => ?_)
      have bx12 := h.1
      have h := h.2 g11 bx12
      have o_v0 := gr_ob g11 o_v0
      refine r_if_ne (pc := 27) C (tgt := 36) dX11_air_27 (by decide) (fun c13 => ?_) (fun c13 => ?_)
      · have h := h.1 c13
        refine r_aload_n (pc := 36) C dX11_air_36 0 rfl ?_
        refine r_aload_n (pc := 37) C dX11_air_37 0 rfl ?_
        obtain ⟨a14, ea14, h⟩ := h
        refine r_getr (pc := 38) C fL_X11_338 dX11_air_38 o_v0 ea14 ?_
        refine r_iload_n (pc := 41) C dX11_air_41 1 rfl ?_
        refine r_iload_n (pc := 42) C dX11_air_42 2 rfl ?_
        refine r_iload_n (pc := 43) C dX11_air_43 3 rfl ?_
        obtain ⟨o_a14, h⟩ := h
        refine r_callVi0 (pc := 44) C (rest := [.ref v0]) (a := a14) o_a14 [.int v1, .int v2, .int v3] yV_X10_air g_1562 (c_X10_air h) dX11_air_44 rfl rfl (Nat.le_of_ble_eq_true rfl) ⟨by decide, by decide⟩ ⟨by decide, by decide⟩ ⟨rfl, rfl⟩ (fun x17 S15 h g16 => ?_)
        have h := h g16
        have o_a14 := gr_ob g16 o_a14
        have o_v0 := gr_ob g16 o_v0
        refine r_callVi0 (pc := 47) C (rest := []) (a := v0) o_v0 [.int x17] yV_X11_good g_1518 (c_X11_good h) dX11_air_47 rfl rfl (Nat.le_of_ble_eq_true rfl) ⟨by decide, by decide⟩ ⟨by decide, by decide⟩ ⟨rfl, rfl⟩ (fun x20 S18 h g19 => ?_)
        have h := h g19
        have o_a14 := gr_ob g19 o_a14
        have o_v0 := gr_ob g19 o_v0
        exact r_iret (pc := 50) C E ht dX11_air_50 (by decide) (by decide) h
      · have h := h.2 c13
        exact r_sub [0] rfl (T_X11_air_30 C E ht hn h)
def P_X11_air (v0 : Nat) (v1 : Int32) (v2 : Int32) (v3 : Int32) (Q : Int32 → HS → Prop) (S : HS) : Prop := P_X11_air_0 Q v0 v1 v2 v3 S
theorem c_X11_air {l : Launch} {Ee : EE} {S : HS} {v0 : Nat} {v1 : Int32} {v2 : Int32} {v3 : Int32} {Q : Int32 → HS → Prop} (h : P_X11_air v0 v1 v2 v3 Q S) : MI l yX11_air cX11_air 4 (some .int) rm_X11_air Ee S [.ref v0, .int v1, .int v2, .int v3] Q :=
  openI (by decide) (Nat.le_of_ble_eq_true rfl) (fun X C E ht hn hE hl => by subst hE; exact r_sub [0, 1, 2, 3] rfl (T_X11_air_0 C E ht hn h))
def rm_X11_denied : Room := { frames := 1, cells := 0, slots := 0, locals := 21 }
def P_X11_denied_0 (Q : Int32 → HS → Prop) (v0 : Nat) (v1 : Int32) (S : HS) : Prop := ob S v0 11 ∧ (P_X11_refused v0 v1 (fun x3 S1 => Gr S S1 → (Q (0 : Int32) S1)) S)
set_option maxRecDepth 20000 in
set_option maxHeartbeats 4000000 in
theorem T_X11_denied_0 {X : CX} {Q : Int32 → HS → Prop} (C : Cx X cX11_denied RX11 2 rm_X11_denied) (E : ReI X rm_X11_denied (fun r S => bl r ∧ Q r S)) (ht : (xh X).sig.returnType = (some .boolean)) (hn : (xh X).name = yX11_denied.name) {v0 : Nat} {v1 : Int32} {S : HS} (h : P_X11_denied_0 Q v0 v1 S) : WS X 2 0 0 0 [(0, .ref v0), (1, .int v1)] [] S := by
  refine r_aload_n (pc := 0) C dX11_denied_0 0 rfl ?_
  refine r_iload_n (pc := 1) C dX11_denied_1 1 rfl ?_
  obtain ⟨o_v0, h⟩ := h
  refine r_callVi0 (pc := 2) C (rest := []) (a := v0) o_v0 [.int v1] yV_X11_refused g_1250 (c_X11_refused h) dX11_denied_2 rfl rfl (Nat.le_of_ble_eq_true rfl) ⟨by decide, by decide⟩ ⟨by decide, by decide⟩ ⟨rfl, rfl⟩ (fun x3 S1 h g2 => ?_)
  have h := h g2
  have o_v0 := gr_ob g2 o_v0
  refine r_pop (pc := 5) C dX11_denied_5 rfl ?_
  refine r_iconst (pc := 6) C (v := (0 : Int32)) dX11_denied_6 (by decide) ?_
  exact r_zret (pc := 7) C E ht dX11_denied_7 (by decide) (by decide) (Or.inl rfl) h
def P_X11_denied (v0 : Nat) (v1 : Int32) (Q : Int32 → HS → Prop) (S : HS) : Prop := P_X11_denied_0 Q v0 v1 S
theorem c_X11_denied {l : Launch} {Ee : EE} {S : HS} {v0 : Nat} {v1 : Int32} {Q : Int32 → HS → Prop} (h : P_X11_denied v0 v1 Q S) : MI l yX11_denied cX11_denied 2 (some .boolean) rm_X11_denied Ee S [.ref v0, .int v1] (fun r S => bl r ∧ Q r S) :=
  openI (by decide) (Nat.le_of_ble_eq_true rfl) (fun X C E ht hn hE hl => by subst hE; exact r_sub [0, 1] rfl (T_X11_denied_0 C E ht hn h))
def rm_X11_granted : Room := { frames := 1, cells := 0, slots := 0, locals := 21 }
def P_X11_granted_0 (Q : Int32 → HS → Prop) (v0 : Nat) (S : HS) : Prop := ob S v0 11 ∧ (P_X11_good v0 (0 : Int32) (fun x3 S1 => Gr S S1 → (Q (1 : Int32) S1)) S)
set_option maxRecDepth 20000 in
set_option maxHeartbeats 4000000 in
theorem T_X11_granted_0 {X : CX} {Q : Int32 → HS → Prop} (C : Cx X cX11_granted RX11 1 rm_X11_granted) (E : ReI X rm_X11_granted (fun r S => bl r ∧ Q r S)) (ht : (xh X).sig.returnType = (some .boolean)) (hn : (xh X).name = yX11_granted.name) {v0 : Nat} {S : HS} (h : P_X11_granted_0 Q v0 S) : WS X 1 0 0 0 [(0, .ref v0)] [] S := by
  refine r_aload_n (pc := 0) C dX11_granted_0 0 rfl ?_
  refine r_iconst (pc := 1) C (v := (0 : Int32)) dX11_granted_1 (by decide) ?_
  obtain ⟨o_v0, h⟩ := h
  refine r_callVi0 (pc := 2) C (rest := []) (a := v0) o_v0 [.int (0 : Int32)] yV_X11_good g_1518 (c_X11_good h) dX11_granted_2 rfl rfl (Nat.le_of_ble_eq_true rfl) ⟨by decide, by decide⟩ ⟨by decide, by decide⟩ ⟨rfl, rfl⟩ (fun x3 S1 h g2 => ?_)
  have h := h g2
  have o_v0 := gr_ob g2 o_v0
  refine r_pop (pc := 5) C dX11_granted_5 rfl ?_
  refine r_iconst (pc := 6) C (v := (1 : Int32)) dX11_granted_6 (by decide) ?_
  exact r_zret (pc := 7) C E ht dX11_granted_7 (by decide) (by decide) (Or.inr rfl) h
def P_X11_granted (v0 : Nat) (Q : Int32 → HS → Prop) (S : HS) : Prop := P_X11_granted_0 Q v0 S
theorem c_X11_granted {l : Launch} {Ee : EE} {S : HS} {v0 : Nat} {Q : Int32 → HS → Prop} (h : P_X11_granted v0 Q S) : MI l yX11_granted cX11_granted 1 (some .boolean) rm_X11_granted Ee S [.ref v0] (fun r S => bl r ∧ Q r S) :=
  openI (by decide) (Nat.le_of_ble_eq_true rfl) (fun X C E ht hn hE hl => by subst hE; exact r_sub [0] rfl (T_X11_granted_0 C E ht hn h))
def rm_X11_isDay : Room := { frames := 0, cells := 0, slots := 0, locals := 0 }
def P_X11_isDay_0 (Q : Int32 → HS → Prop) (v0 : Nat) (S : HS) : Prop := ob S v0 11 ∧ ((fR S v0 3 = none → (Q (0 : Int32) S)) ∧ (∀ a1 : Nat, fR S v0 3 = some a1 → (∀ x3 : Int32, x3 = fI S v0 19 → (((x3 = (-2 : Int32)) → (Q (0 : Int32) S)) ∧ ((¬ x3 = (-2 : Int32)) → (Q (1 : Int32) S))))))
set_option maxRecDepth 20000 in
set_option maxHeartbeats 4000000 in
theorem T_X11_isDay_0 {X : CX} {Q : Int32 → HS → Prop} (C : Cx X cX11_isDay RX11 1 rm_X11_isDay) (E : ReI X rm_X11_isDay (fun r S => bl r ∧ Q r S)) (ht : (xh X).sig.returnType = (some .boolean)) (hn : (xh X).name = yX11_isDay.name) {v0 : Nat} {S : HS} (h : P_X11_isDay_0 Q v0 S) : WS X 1 0 0 0 [(0, .ref v0)] [] S := by
  refine r_aload_n (pc := 0) C dX11_isDay_0 0 rfl ?_
  obtain ⟨o_v0, h⟩ := h
  rcases e2 : fR S v0 3 with _ | a1
  · refine r_get0 (pc := 1) C fL_X11_338 dX11_isDay_1 o_v0 e2 ?_
    refine r_ifnull0 (pc := 4) C (tgt := 20) dX11_isDay_4 (by decide) ?_
    have h := h.1 e2
    refine r_iconst (pc := 20) C (v := (0 : Int32)) dX11_isDay_20 (by decide) ?_
    exact r_zret (pc := 21) C E ht dX11_isDay_21 (by decide) (by decide) (Or.inl rfl) h
  · refine r_getr (pc := 1) C fL_X11_338 dX11_isDay_1 o_v0 e2 ?_
    refine r_ifnull (pc := 4) C dX11_isDay_4 ?_
    have h := h.2 a1 e2
    refine r_aload_n (pc := 7) C dX11_isDay_7 0 rfl ?_
    refine r_geti (pc := 8) C fL_X11_28 dX11_isDay_8 o_v0 ?_
    refine r_topi (fun x3 ex3 => ?_)
    have h := h x3 ex3
    refine r_bipush (pc := 11) C (v := (-2 : Int32)) dX11_isDay_11 (by decide) ?_
    refine r_icmp_eq (pc := 13) C (tgt := 20) dX11_isDay_13 (by decide) (fun c4 => ?_) (fun c4 => ?_)
    · have h := h.1 c4
      refine r_iconst (pc := 20) C (v := (0 : Int32)) dX11_isDay_20 (by decide) ?_
      exact r_zret (pc := 21) C E ht dX11_isDay_21 (by decide) (by decide) (Or.inl rfl) h
    · have h := h.2 c4
      refine r_iconst (pc := 16) C (v := (1 : Int32)) dX11_isDay_16 (by decide) ?_
      refine r_goto (pc := 17) C (tgt := 21) dX11_isDay_17 (by decide) ?_
      exact r_zret (pc := 21) C E ht dX11_isDay_21 (by decide) (by decide) (Or.inr rfl) h
def P_X11_isDay (v0 : Nat) (Q : Int32 → HS → Prop) (S : HS) : Prop := P_X11_isDay_0 Q v0 S
theorem c_X11_isDay {l : Launch} {Ee : EE} {S : HS} {v0 : Nat} {Q : Int32 → HS → Prop} (h : P_X11_isDay v0 Q S) : MI l yX11_isDay cX11_isDay 1 (some .boolean) rm_X11_isDay Ee S [.ref v0] (fun r S => bl r ∧ Q r S) :=
  openI (by decide) (Nat.le_of_ble_eq_true rfl) (fun X C E ht hn hE hl => by subst hE; exact r_sub [0] rfl (T_X11_isDay_0 C E ht hn h))
def rm_X11_back : Room := { frames := 2, cells := 0, slots := 0, locals := 42 }
def P_X11_back_24 (Q : Int32 → HS → Prop) (v0 : Nat) (S : HS) : Prop := ob S v0 11 ∧ (P_X11_denied v0 (1 : Int32) (fun x3 S1 => Gr S S1 → bl x3 → (bl x3 ∧ Q x3 S1)) S)
set_option maxRecDepth 20000 in
set_option maxHeartbeats 4000000 in
theorem T_X11_back_24 {X : CX} {Q : Int32 → HS → Prop} (C : Cx X cX11_back RX11 3 rm_X11_back) (E : ReI X rm_X11_back (fun r S => bl r ∧ Q r S)) (ht : (xh X).sig.returnType = (some .boolean)) (hn : (xh X).name = yX11_back.name) {v0 : Nat} {S : HS} (h : P_X11_back_24 Q v0 S) : WS X 3 0 0 24 [(0, .ref v0)] [] S := by
  refine r_aload_n (pc := 24) C dX11_back_24 0 rfl ?_
  refine r_iconst (pc := 25) C (v := (1 : Int32)) dX11_back_25 (by decide) ?_
  obtain ⟨o_v0, h⟩ := h
  refine r_callVi0 (pc := 26) C (rest := []) (a := v0) o_v0 [.int (1 : Int32)] yV_X11_denied g_1795 (c_X11_denied h) dX11_back_26 rfl rfl (Nat.le_of_ble_eq_true rfl) ⟨by decide, by decide⟩ ⟨by decide, by decide⟩ ⟨rfl, rfl⟩ (fun x3 S1 h g2 => ?_)
  have bx3 := h.1
  have h := h.2 g2 bx3
  have o_v0 := gr_ob g2 o_v0
  exact r_zret (pc := 29) C E ht dX11_back_29 (by decide) (by decide) h.1 h.2
def B_X11_back_32 (Q : Int32 → HS → Prop) (X32 : Nat → Int32 → Int32 → HS → Prop) (v0 : Nat) (v1 : Int32) (v2 : Int32) (S : HS) : Prop := (((7 : Int32) ≤ v2) → (ob S v0 11 ∧ (∀ S2 : HS, S2 = sI S v0 24 (0 : Int32) → (P_X11_granted v0 (fun x5 S3 => Gr S2 S3 → bl x5 → (bl x5 ∧ Q x5 S3)) S2)))) ∧ ((¬ (7 : Int32) ≤ v2) → (ob S v0 11 ∧ (∃ a6 : Nat, fR S v0 21 = some a6 ∧ (∃ a7 : Nat, fR S v0 23 = some a7 ∧ (ob S a7 14 ∧ (∀ x9 : Int32, x9 = ((7 : Int32) * v1) + v2 → (vp_in x9 (hN S a7) ∧ ∀ x10 : Int64, x10 = fJ S a7 x9.toNatClampNeg → (ob S a6 14 ∧ (vp_in v2 (hN S a6) ∧ (∀ S12 : HS, S12 = sJ S a6 v2.toNatClampNeg x10 → (∀ x13 : Int32, x13 = v2 + (1 : Int32) → (X32 v0 v1 x13 S12))))))))))))
def P_X11_back_32 (Q : Int32 → HS → Prop) (v0 : Nat) (v1 : Int32) (v2 : Int32) (S : HS) : Prop := ∀ X32 : Nat → Int32 → Int32 → HS → Prop, (∀ (v0 : Nat) (v1 : Int32) (v2 : Int32) (S : HS), B_X11_back_32 Q X32 v0 v1 v2 S → X32 v0 v1 v2 S) → X32 v0 v1 v2 S
set_option maxRecDepth 20000 in
set_option maxHeartbeats 4000000 in
theorem TB_X11_back_32 {X : CX} {Q : Int32 → HS → Prop} (C : Cx X cX11_back RX11 3 rm_X11_back) (E : ReI X rm_X11_back (fun r S => bl r ∧ Q r S)) (ht : (xh X).sig.returnType = (some .boolean)) (hn : (xh X).name = yX11_back.name) {X32 : Nat → Int32 → Int32 → HS → Prop} (hX32 : ∀ (v0 : Nat) (v1 : Int32) (v2 : Int32) (S : HS), X32 v0 v1 v2 S → WS X 3 0 0 32 [(0, .ref v0), (1, .int v1), (2, .int v2)] [] S) {v0 : Nat} {v1 : Int32} {v2 : Int32} {S : HS} (h : B_X11_back_32 Q X32 v0 v1 v2 S) : WS X 3 0 0 32 [(0, .ref v0), (1, .int v1), (2, .int v2)] [] S := by
  refine r_iload_n (pc := 32) C dX11_back_32 2 rfl ?_
  refine r_bipush (pc := 33) C (v := (7 : Int32)) dX11_back_33 (by decide) ?_
  refine r_icmp_ge (pc := 35) C (tgt := 61) dX11_back_35 (by decide) (fun c1 => ?_) (fun c1 => ?_)
  · have h := h.1 c1
    refine r_aload_n (pc := 61) C dX11_back_61 0 rfl ?_
    refine r_iconst (pc := 62) C (v := (0 : Int32)) dX11_back_62 (by decide) ?_
    obtain ⟨o_v0, h⟩ := h
    refine r_puti (pc := 63) C pfL_X11_340 dX11_back_63 o_v0 ?_
    refine r_heap (fun S2 eS2 => ?_)
    have h := h S2 eS2
    have o_v0 := ob_I eS2 o_v0
    refine r_aload_n (pc := 66) C dX11_back_66 0 rfl ?_
    refine r_callVi0 (pc := 67) C (rest := []) (a := v0) o_v0 [] yV_X11_granted g_1800 (c_X11_granted h) dX11_back_67 rfl rfl (Nat.le_of_ble_eq_true rfl) ⟨by decide, by decide⟩ ⟨by decide, by decide⟩ ⟨rfl, rfl⟩ (fun x5 S3 h g4 => ?_)
    have bx5 := h.1
    have h := h.2 g4 bx5
    have o_v0 := gr_ob g4 o_v0
    exact r_zret (pc := 70) C E ht dX11_back_70 (by decide) (by decide) h.1 h.2
  · have h := h.2 c1
    refine r_aload_n (pc := 38) C dX11_back_38 0 rfl ?_
    obtain ⟨o_v0, h⟩ := h
    obtain ⟨a6, ea6, h⟩ := h
    refine r_getr (pc := 39) C fL_X11_31 dX11_back_39 o_v0 ea6 ?_
    refine r_iload_n (pc := 42) C dX11_back_42 2 rfl ?_
    refine r_aload_n (pc := 43) C dX11_back_43 0 rfl ?_
    obtain ⟨a7, ea7, h⟩ := h
    refine r_getr (pc := 44) C fL_X11_37 dX11_back_44 o_v0 ea7 ?_
    refine r_bipush (pc := 47) C (v := (7 : Int32)) dX11_back_47 (by decide) ?_
    refine r_iload_n (pc := 49) C dX11_back_49 1 rfl ?_
    refine r_imul (pc := 50) C dX11_back_50 ?_
    refine r_iload_n (pc := 51) C dX11_back_51 2 rfl ?_
    refine r_iadd (pc := 52) C dX11_back_52 ?_
    obtain ⟨o_a7, h⟩ := h
    refine r_topi (fun x9 ex9 => ?_)
    have h := h x9 ex9
    obtain ⟨i8, h⟩ := h
    refine r_lald (pc := 53) C dX11_back_53 o_a7 i8 ?_
    refine r_topl (fun x10 ex10 => ?_)
    have h := h x10 ex10
    obtain ⟨o_a6, h⟩ := h
    obtain ⟨i11, h⟩ := h
    refine r_last (pc := 54) C dX11_back_54 o_a6 i11 ?_
    refine r_heap (fun S12 eS12 => ?_)
    have h := h S12 eS12
    have o_a6 := ob_J eS12 o_a6
    have o_a7 := ob_J eS12 o_a7
    have o_v0 := ob_J eS12 o_v0
    obtain ⟨x13, ex13⟩ : ∃ z : Int32, z = v2 + (1 : Int32) := ⟨_, rfl⟩
    have h := h x13 ex13
    refine r_iinc (pc := 55) C (v := x13) (lv' := [(2, .int x13), (0, .ref v0), (1, .int v1)]) dX11_back_55 2 rfl ex13.symm (by decide) rfl ?_
    refine r_goto (pc := 58) C (tgt := 32) dX11_back_58 (by decide) ?_
    exact r_sub [1, 2, 0] rfl (hX32 v0 v1 x13 S12 h)
theorem T_X11_back_32 {X : CX} {Q : Int32 → HS → Prop} (C : Cx X cX11_back RX11 3 rm_X11_back) (E : ReI X rm_X11_back (fun r S => bl r ∧ Q r S)) (ht : (xh X).sig.returnType = (some .boolean)) (hn : (xh X).name = yX11_back.name) {v0 : Nat} {v1 : Int32} {v2 : Int32} {S : HS} (h : P_X11_back_32 Q v0 v1 v2 S) : WS X 3 0 0 32 [(0, .ref v0), (1, .int v1), (2, .int v2)] [] S :=
  h (fun v0 v1 v2 S => WS X 3 0 0 32 [(0, .ref v0), (1, .int v1), (2, .int v2)] [] S) (fun v0 v1 v2 S hh => TB_X11_back_32 C E ht hn (fun v0 v1 v2 S z => z) hh)
def P_X11_back_0 (Q : Int32 → HS → Prop) (v0 : Nat) (v1 : Int32) (S : HS) : Prop := ob S v0 11 ∧ (∀ S1 : HS, S1 = sI S v0 0 (0 : Int32) → (P_X11_isDay v0 (fun x4 S2 => Gr S1 S2 → bl x4 → (((x4 = 0) → (P_X11_back_24 Q v0 S2)) ∧ ((¬ x4 = 0) → (((v1 < 0) → (P_X11_back_24 Q v0 S2)) ∧ ((¬ v1 < 0) → (∀ x7 : Int32, x7 = fI S2 v0 25 → (((v1 < x7) → (P_X11_back_32 Q v0 v1 (0 : Int32) S2)) ∧ ((¬ v1 < x7) → (P_X11_back_24 Q v0 S2))))))))) S1))
set_option maxRecDepth 20000 in
set_option maxHeartbeats 4000000 in
theorem T_X11_back_0 {X : CX} {Q : Int32 → HS → Prop} (C : Cx X cX11_back RX11 3 rm_X11_back) (E : ReI X rm_X11_back (fun r S => bl r ∧ Q r S)) (ht : (xh X).sig.returnType = (some .boolean)) (hn : (xh X).name = yX11_back.name) {v0 : Nat} {v1 : Int32} {S : HS} (h : P_X11_back_0 Q v0 v1 S) : WS X 3 0 0 0 [(0, .ref v0), (1, .int v1)] [] S := by
  refine r_aload_n (pc := 0) C dX11_back_0 0 rfl ?_
  refine r_iconst (pc := 1) C (v := (0 : Int32)) dX11_back_1 (by decide) ?_
  obtain ⟨o_v0, h⟩ := h
  refine r_puti (pc := 2) C pfL_X11_40 dX11_back_2 o_v0 ?_
  refine r_heap (fun S1 eS1 => ?_)
  have h := h S1 eS1
  have o_v0 := ob_I eS1 o_v0
  refine r_aload_n (pc := 5) C dX11_back_5 0 rfl ?_
  refine r_callVi0 (pc := 6) C (rest := []) (a := v0) o_v0 [] yV_X11_isDay g_1779 (c_X11_isDay h) dX11_back_6 rfl rfl (Nat.le_of_ble_eq_true rfl) ⟨by decide, by decide⟩ ⟨by decide, by decide⟩ ⟨rfl, rfl⟩ (fun x4 S2 h g3 => ?_)
  have bx4 := h.1
  have h := h.2 g3 bx4
  have o_v0 := gr_ob g3 o_v0
  refine r_if_eq (pc := 9) C (tgt := 24) dX11_back_9 (by decide) (fun c5 => ?_) (fun c5 => ?_)
  · have h := h.1 c5
    exact r_sub [0] rfl (T_X11_back_24 C E ht hn h)
  · have h := h.2 c5
    refine r_iload_n (pc := 12) C dX11_back_12 1 rfl ?_
    refine r_if_lt (pc := 13) C (tgt := 24) dX11_back_13 (by decide) (fun c6 => ?_) (fun c6 => ?_)
    · have h := h.1 c6
      exact r_sub [0] rfl (T_X11_back_24 C E ht hn h)
    · have h := h.2 c6
      refine r_iload_n (pc := 16) C dX11_back_16 1 rfl ?_
      refine r_aload_n (pc := 17) C dX11_back_17 0 rfl ?_
      refine r_geti (pc := 18) C fL_X11_343 dX11_back_18 o_v0 ?_
      refine r_topi (fun x7 ex7 => ?_)
      have h := h x7 ex7
      refine r_icmp_lt (pc := 21) C (tgt := 30) dX11_back_21 (by decide) (fun c8 => ?_) (fun c8 => ?_)
      · have h := h.1 c8
        refine r_iconst (pc := 30) C (v := (0 : Int32)) dX11_back_30 (by decide) ?_
        refine r_istore_n (pc := 31) C dX11_back_31 rfl (by decide) (lv' := [(2, .int (0 : Int32)), (0, .ref v0), (1, .int v1)]) rfl ?_
        exact r_sub [1, 2, 0] rfl (T_X11_back_32 C E ht hn h)
      · have h := h.2 c8
        exact r_sub [0] rfl (T_X11_back_24 C E ht hn h)
def P_X11_back (v0 : Nat) (v1 : Int32) (Q : Int32 → HS → Prop) (S : HS) : Prop := P_X11_back_0 Q v0 v1 S
theorem c_X11_back {l : Launch} {Ee : EE} {S : HS} {v0 : Nat} {v1 : Int32} {Q : Int32 → HS → Prop} (h : P_X11_back v0 v1 Q S) : MI l yX11_back cX11_back 3 (some .boolean) rm_X11_back Ee S [.ref v0, .int v1] (fun r S => bl r ∧ Q r S) :=
  openI (by decide) (Nat.le_of_ble_eq_true rfl) (fun X C E ht hn hE hl => by subst hE; exact r_sub [0, 1] rfl (T_X11_back_0 C E ht hn h))
def rm_X11_flaw : Room := { frames := 0, cells := 0, slots := 0, locals := 0 }
def P_X11_flaw_0 (Q : HS → Prop) (v0 : Nat) (v1 : Int32) (S : HS) : Prop := ob S v0 11 ∧ (∀ x1 : Int32, x1 = fI S v0 9 → (((¬ x1 = (5 : Int32)) → (∀ S3 : HS, S3 = sI S v0 13 v1 → (∀ x4 : Int32, x4 = fI S3 v0 10 → (∀ S5 : HS, S5 = sI S3 v0 14 x4 → (∀ S6 : HS, S6 = sI S5 v0 9 (5 : Int32) → (Q S6)))))) ∧ ((x1 = (5 : Int32)) → (Q S))))
set_option maxRecDepth 20000 in
set_option maxHeartbeats 4000000 in
theorem T_X11_flaw_0 {X : CX} {Q : HS → Prop} (C : Cx X cX11_flaw RX11 2 rm_X11_flaw) (E : ReV X rm_X11_flaw Q) (ht : (xh X).sig.returnType = none) (hn : (xh X).name = yX11_flaw.name) {v0 : Nat} {v1 : Int32} {S : HS} (h : P_X11_flaw_0 Q v0 v1 S) : WS X 2 0 0 0 [(0, .ref v0), (1, .int v1)] [] S := by
  refine r_aload_n (pc := 0) C dX11_flaw_0 0 rfl ?_
  obtain ⟨o_v0, h⟩ := h
  refine r_geti (pc := 1) C fL_X11_68 dX11_flaw_1 o_v0 ?_
  refine r_topi (fun x1 ex1 => ?_)
  have h := h x1 ex1
  refine r_iconst (pc := 4) C (v := (5 : Int32)) dX11_flaw_4 (by decide) ?_
  refine r_icmp_ne (pc := 5) C (tgt := 9) dX11_flaw_5 (by decide) (fun c2 => ?_) (fun c2 => ?_)
  · have h := h.1 c2
    refine r_aload_n (pc := 9) C dX11_flaw_9 0 rfl ?_
    refine r_iload_n (pc := 10) C dX11_flaw_10 1 rfl ?_
    refine r_puti (pc := 11) C pfL_X11_97 dX11_flaw_11 o_v0 ?_
    refine r_heap (fun S3 eS3 => ?_)
    have h := h S3 eS3
    have o_v0 := ob_I eS3 o_v0
    refine r_aload_n (pc := 14) C dX11_flaw_14 0 rfl ?_
    refine r_aload_n (pc := 15) C dX11_flaw_15 0 rfl ?_
    refine r_geti (pc := 16) C fL_X11_77 dX11_flaw_16 o_v0 ?_
    refine r_topi (fun x4 ex4 => ?_)
    have h := h x4 ex4
    refine r_puti (pc := 19) C pfL_X11_100 dX11_flaw_19 o_v0 ?_
    refine r_heap (fun S5 eS5 => ?_)
    have h := h S5 eS5
    have o_v0 := ob_I eS5 o_v0
    refine r_aload_n (pc := 22) C dX11_flaw_22 0 rfl ?_
    refine r_iconst (pc := 23) C (v := (5 : Int32)) dX11_flaw_23 (by decide) ?_
    refine r_puti (pc := 24) C pfL_X11_68 dX11_flaw_24 o_v0 ?_
    refine r_heap (fun S6 eS6 => ?_)
    have h := h S6 eS6
    have o_v0 := ob_I eS6 o_v0
    exact r_vret (pc := 27) C E ht dX11_flaw_27 (by decide) (by decide) h
  · have h := h.2 c2
    exact r_vret (pc := 8) C E ht dX11_flaw_8 (by decide) (by decide) h
def P_X11_flaw (v0 : Nat) (v1 : Int32) (Q : HS → Prop) (S : HS) : Prop := P_X11_flaw_0 Q v0 v1 S
theorem c_X11_flaw {l : Launch} {Ee : EE} {S : HS} {v0 : Nat} {v1 : Int32} {Q : HS → Prop} (h : P_X11_flaw v0 v1 Q S) : MV l yX11_flaw cX11_flaw 2 none rm_X11_flaw Ee S [.ref v0, .int v1] Q :=
  openV (by decide) (Nat.le_of_ble_eq_true rfl) (fun X C E ht hn hE hl => by subst hE; exact r_sub [0, 1] rfl (T_X11_flaw_0 C E ht hn h))
def rm_X11_byteAt : Room := { frames := 0, cells := 0, slots := 0, locals := 0 }
def P_X11_byteAt_0 (Q : Int32 → HS → Prop) (v0 : Nat) (v1 : Int32) (S : HS) : Prop := ob S v0 11 ∧ (∀ x1 : Int32, x1 = fI S v0 7 → (((x1 ≤ v1) → (Q (-1 : Int32) S)) ∧ ((¬ x1 ≤ v1) → (∃ a3 : Nat, fR S v0 5 = some a3 ∧ (ob S a3 12 ∧ (vp_in v1 (hN S a3) ∧ ∀ x5 : Int32, x5 = fI S a3 v1.toNatClampNeg → (Q (x5 &&& (255 : Int32)) S)))))))
set_option maxRecDepth 20000 in
set_option maxHeartbeats 4000000 in
theorem T_X11_byteAt_0 {X : CX} {Q : Int32 → HS → Prop} (C : Cx X cX11_byteAt RX11 2 rm_X11_byteAt) (E : ReI X rm_X11_byteAt Q) (ht : (xh X).sig.returnType = (some .int)) (hn : (xh X).name = yX11_byteAt.name) {v0 : Nat} {v1 : Int32} {S : HS} (h : P_X11_byteAt_0 Q v0 v1 S) : WS X 2 0 0 0 [(0, .ref v0), (1, .int v1)] [] S := by
  refine r_iload_n (pc := 0) C dX11_byteAt_0 1 rfl ?_
  refine r_aload_n (pc := 1) C dX11_byteAt_1 0 rfl ?_
  obtain ⟨o_v0, h⟩ := h
  refine r_geti (pc := 2) C fL_X11_53 dX11_byteAt_2 o_v0 ?_
  refine r_topi (fun x1 ex1 => ?_)
  have h := h x1 ex1
  refine r_icmp_ge (pc := 5) C (tgt := 21) dX11_byteAt_5 (by decide) (fun c2 => ?_) (fun c2 => ?_)
  · have h := h.1 c2
    refine r_iconst (pc := 21) C (v := (-1 : Int32)) dX11_byteAt_21 (by decide) ?_
    exact r_iret (pc := 22) C E ht dX11_byteAt_22 (by decide) (by decide) h
  · have h := h.2 c2
    refine r_aload_n (pc := 8) C dX11_byteAt_8 0 rfl ?_
    obtain ⟨a3, ea3, h⟩ := h
    refine r_getr (pc := 9) C fL_X11_13 dX11_byteAt_9 o_v0 ea3 ?_
    refine r_iload_n (pc := 12) C dX11_byteAt_12 1 rfl ?_
    obtain ⟨o_a3, h⟩ := h
    obtain ⟨i4, h⟩ := h
    refine r_bald (pc := 13) C dX11_byteAt_13 o_a3 i4 ?_
    refine r_topi (fun x5 ex5 => ?_)
    have h := h x5 ex5
    refine r_sipush (pc := 14) C (v := (255 : Int32)) dX11_byteAt_14 (by decide) ?_
    refine r_iand (pc := 17) C dX11_byteAt_17 ?_
    refine r_goto (pc := 18) C (tgt := 22) dX11_byteAt_18 (by decide) ?_
    exact r_iret (pc := 22) C E ht dX11_byteAt_22 (by decide) (by decide) h
def P_X11_byteAt (v0 : Nat) (v1 : Int32) (Q : Int32 → HS → Prop) (S : HS) : Prop := P_X11_byteAt_0 Q v0 v1 S
theorem c_X11_byteAt {l : Launch} {Ee : EE} {S : HS} {v0 : Nat} {v1 : Int32} {Q : Int32 → HS → Prop} (h : P_X11_byteAt v0 v1 Q S) : MI l yX11_byteAt cX11_byteAt 2 (some .int) rm_X11_byteAt Ee S [.ref v0, .int v1] Q :=
  openI (by decide) (Nat.le_of_ble_eq_true rfl) (fun X C E ht hn hE hl => by subst hE; exact r_sub [0, 1] rfl (T_X11_byteAt_0 C E ht hn h))
def rm_X11_isDigit : Room := { frames := 0, cells := 0, slots := 0, locals := 0 }
def P_X11_isDigit_0 (Q : Int32 → HS → Prop) (v0 : Int32) (S : HS) : Prop := ((v0 < (48 : Int32)) → (Q (0 : Int32) S)) ∧ ((¬ v0 < (48 : Int32)) → ((((57 : Int32) < v0) → (Q (0 : Int32) S)) ∧ ((¬ (57 : Int32) < v0) → (Q (1 : Int32) S))))
set_option maxRecDepth 20000 in
set_option maxHeartbeats 4000000 in
theorem T_X11_isDigit_0 {X : CX} {Q : Int32 → HS → Prop} (C : Cx X cX11_isDigit RX11 1 rm_X11_isDigit) (E : ReI X rm_X11_isDigit (fun r S => bl r ∧ Q r S)) (ht : (xh X).sig.returnType = (some .boolean)) (hn : (xh X).name = yX11_isDigit.name) {v0 : Int32} {S : HS} (h : P_X11_isDigit_0 Q v0 S) : WS X 1 0 0 0 [(0, .int v0)] [] S := by
  refine r_iload_n (pc := 0) C dX11_isDigit_0 0 rfl ?_
  refine r_bipush (pc := 1) C (v := (48 : Int32)) dX11_isDigit_1 (by decide) ?_
  refine r_icmp_lt (pc := 3) C (tgt := 16) dX11_isDigit_3 (by decide) (fun c1 => ?_) (fun c1 => ?_)
  · have h := h.1 c1
    refine r_iconst (pc := 16) C (v := (0 : Int32)) dX11_isDigit_16 (by decide) ?_
    exact r_zret (pc := 17) C E ht dX11_isDigit_17 (by decide) (by decide) (Or.inl rfl) h
  · have h := h.2 c1
    refine r_iload_n (pc := 6) C dX11_isDigit_6 0 rfl ?_
    refine r_bipush (pc := 7) C (v := (57 : Int32)) dX11_isDigit_7 (by decide) ?_
    refine r_icmp_gt (pc := 9) C (tgt := 16) dX11_isDigit_9 (by decide) (fun c2 => ?_) (fun c2 => ?_)
    · have h := h.1 c2
      refine r_iconst (pc := 16) C (v := (0 : Int32)) dX11_isDigit_16 (by decide) ?_
      exact r_zret (pc := 17) C E ht dX11_isDigit_17 (by decide) (by decide) (Or.inl rfl) h
    · have h := h.2 c2
      refine r_iconst (pc := 12) C (v := (1 : Int32)) dX11_isDigit_12 (by decide) ?_
      refine r_goto (pc := 13) C (tgt := 17) dX11_isDigit_13 (by decide) ?_
      exact r_zret (pc := 17) C E ht dX11_isDigit_17 (by decide) (by decide) (Or.inr rfl) h
def P_X11_isDigit (v0 : Int32) (Q : Int32 → HS → Prop) (S : HS) : Prop := P_X11_isDigit_0 Q v0 S
theorem c_X11_isDigit {l : Launch} {Ee : EE} {S : HS} {v0 : Int32} {Q : Int32 → HS → Prop} (h : P_X11_isDigit v0 Q S) : MI l yX11_isDigit cX11_isDigit 1 (some .boolean) rm_X11_isDigit Ee S [.int v0] (fun r S => bl r ∧ Q r S) :=
  openI (by decide) (Nat.le_of_ble_eq_true rfl) (fun X C E ht hn hE hl => by subst hE; exact r_sub [0] rfl (T_X11_isDigit_0 C E ht hn h))
def rm_X11_isLetter : Room := { frames := 0, cells := 0, slots := 0, locals := 0 }
def P_X11_isLetter_0 (Q : Int32 → HS → Prop) (v0 : Int32) (S : HS) : Prop := ((v0 < (97 : Int32)) → (Q (0 : Int32) S)) ∧ ((¬ v0 < (97 : Int32)) → ((((122 : Int32) < v0) → (Q (0 : Int32) S)) ∧ ((¬ (122 : Int32) < v0) → (Q (1 : Int32) S))))
set_option maxRecDepth 20000 in
set_option maxHeartbeats 4000000 in
theorem T_X11_isLetter_0 {X : CX} {Q : Int32 → HS → Prop} (C : Cx X cX11_isLetter RX11 1 rm_X11_isLetter) (E : ReI X rm_X11_isLetter (fun r S => bl r ∧ Q r S)) (ht : (xh X).sig.returnType = (some .boolean)) (hn : (xh X).name = yX11_isLetter.name) {v0 : Int32} {S : HS} (h : P_X11_isLetter_0 Q v0 S) : WS X 1 0 0 0 [(0, .int v0)] [] S := by
  refine r_iload_n (pc := 0) C dX11_isLetter_0 0 rfl ?_
  refine r_bipush (pc := 1) C (v := (97 : Int32)) dX11_isLetter_1 (by decide) ?_
  refine r_icmp_lt (pc := 3) C (tgt := 16) dX11_isLetter_3 (by decide) (fun c1 => ?_) (fun c1 => ?_)
  · have h := h.1 c1
    refine r_iconst (pc := 16) C (v := (0 : Int32)) dX11_isLetter_16 (by decide) ?_
    exact r_zret (pc := 17) C E ht dX11_isLetter_17 (by decide) (by decide) (Or.inl rfl) h
  · have h := h.2 c1
    refine r_iload_n (pc := 6) C dX11_isLetter_6 0 rfl ?_
    refine r_bipush (pc := 7) C (v := (122 : Int32)) dX11_isLetter_7 (by decide) ?_
    refine r_icmp_gt (pc := 9) C (tgt := 16) dX11_isLetter_9 (by decide) (fun c2 => ?_) (fun c2 => ?_)
    · have h := h.1 c2
      refine r_iconst (pc := 16) C (v := (0 : Int32)) dX11_isLetter_16 (by decide) ?_
      exact r_zret (pc := 17) C E ht dX11_isLetter_17 (by decide) (by decide) (Or.inl rfl) h
    · have h := h.2 c2
      refine r_iconst (pc := 12) C (v := (1 : Int32)) dX11_isLetter_12 (by decide) ?_
      refine r_goto (pc := 13) C (tgt := 17) dX11_isLetter_13 (by decide) ?_
      exact r_zret (pc := 17) C E ht dX11_isLetter_17 (by decide) (by decide) (Or.inr rfl) h
def P_X11_isLetter (v0 : Int32) (Q : Int32 → HS → Prop) (S : HS) : Prop := P_X11_isLetter_0 Q v0 S
theorem c_X11_isLetter {l : Launch} {Ee : EE} {S : HS} {v0 : Int32} {Q : Int32 → HS → Prop} (h : P_X11_isLetter v0 Q S) : MI l yX11_isLetter cX11_isLetter 1 (some .boolean) rm_X11_isLetter Ee S [.int v0] (fun r S => bl r ∧ Q r S) :=
  openI (by decide) (Nat.le_of_ble_eq_true rfl) (fun X C E ht hn hE hl => by subst hE; exact r_sub [0] rfl (T_X11_isLetter_0 C E ht hn h))
def rm_X11_goesOn : Room := { frames := 1, cells := 0, slots := 0, locals := 21 }
def P_X11_goesOn_136 (Q : HS → Prop) (X89 : Nat → Int32 → HS → Prop) (v0 : Nat) (v2 : Int32) (S : HS) : Prop := ∀ x1 : Int32, x1 = v2 + (1 : Int32) → (ob S v0 11 ∧ (∀ x2 : Int32, x2 = fI S v0 8 → (∀ x3 : Int32, x3 = x2 + (1 : Int32) → (∀ S4 : HS, S4 = sI S v0 8 x3 → (X89 v0 x1 S4)))))
set_option maxRecDepth 20000 in
set_option maxHeartbeats 4000000 in
theorem T_X11_goesOn_136 {X : CX} {Q : HS → Prop} (C : Cx X cX11_goesOn RX11 3 rm_X11_goesOn) (E : ReV X rm_X11_goesOn Q) (ht : (xh X).sig.returnType = none) (hn : (xh X).name = yX11_goesOn.name) {X89 : Nat → Int32 → HS → Prop} (hX89 : ∀ (v0 : Nat) (v2 : Int32) (S : HS), X89 v0 v2 S → WS X 3 0 0 89 [(0, .ref v0), (2, .int v2)] [] S) {v0 : Nat} {v2 : Int32} {S : HS} (h : P_X11_goesOn_136 Q X89 v0 v2 S) : WS X 3 0 0 136 [(0, .ref v0), (2, .int v2)] [] S := by
  obtain ⟨x1, ex1⟩ : ∃ z : Int32, z = v2 + (1 : Int32) := ⟨_, rfl⟩
  have h := h x1 ex1
  refine r_iinc (pc := 136) C (v := x1) (lv' := [(2, .int x1), (0, .ref v0)]) dX11_goesOn_136 1 rfl ex1.symm (by decide) rfl ?_
  refine r_aload_n (pc := 139) C dX11_goesOn_139 1 rfl ?_
  refine r_dup (pc := 140) C dX11_goesOn_140 rfl ?_
  obtain ⟨o_v0, h⟩ := h
  refine r_geti (pc := 141) C fL_X11_71 dX11_goesOn_141 o_v0 ?_
  refine r_topi (fun x2 ex2 => ?_)
  have h := h x2 ex2
  refine r_iconst (pc := 144) C (v := (1 : Int32)) dX11_goesOn_144 (by decide) ?_
  refine r_iadd (pc := 145) C dX11_goesOn_145 ?_
  refine r_topi (fun x3 ex3 => ?_)
  have h := h x3 ex3
  refine r_puti (pc := 146) C pfL_X11_71 dX11_goesOn_146 o_v0 ?_
  refine r_heap (fun S4 eS4 => ?_)
  have h := h S4 eS4
  have o_v0 := ob_I eS4 o_v0
  refine r_goto (pc := 149) C (tgt := 89) dX11_goesOn_149 (by decide) ?_
  exact r_sub [1, 0] rfl (hX89 v0 x1 S4 h)
def B_X11_goesOn_89 (Q : HS → Prop) (X89 : Nat → Int32 → HS → Prop) (v0 : Nat) (v2 : Int32) (S : HS) : Prop := ob S v0 11 ∧ (∀ x1 : Int32, x1 = fI S v0 8 → (P_X11_byteAt v0 x1 (fun x4 S2 => Gr S S2 → (P_X11_isLetter x4 (fun x7 S5 => Gr S2 S5 → bl x7 → (((x7 = 0) → ((((8 : Int32) < v2) → (Q S5)) ∧ ((¬ (8 : Int32) < v2) → (∀ S10 : HS, S10 = sI S5 v0 9 (2 : Int32) → (Q S10))))) ∧ ((¬ x7 = 0) → ((((8 : Int32) ≤ v2) → (P_X11_goesOn_136 Q X89 v0 v2 S5)) ∧ ((¬ (8 : Int32) ≤ v2) → (∀ x12 : Int64, x12 = fJ S5 v0 15 → (∀ x13 : Int32, x13 = fI S5 v0 8 → (P_X11_byteAt v0 x13 (fun x16 S14 => Gr S5 S14 → (∀ x17 : Int64, x17 = ((32 : Int64) * x12) + (((x16 - (97 : Int32)) + (1 : Int32)).toInt64) → (∀ S18 : HS, S18 = sJ S14 v0 15 x17 → (P_X11_goesOn_136 Q X89 v0 v2 S18)))) S5)))))))) S2)) S))
def P_X11_goesOn_89 (Q : HS → Prop) (v0 : Nat) (v2 : Int32) (S : HS) : Prop := ∀ X89 : Nat → Int32 → HS → Prop, (∀ (v0 : Nat) (v2 : Int32) (S : HS), B_X11_goesOn_89 Q X89 v0 v2 S → X89 v0 v2 S) → X89 v0 v2 S
set_option maxRecDepth 20000 in
set_option maxHeartbeats 4000000 in
theorem TB_X11_goesOn_89 {X : CX} {Q : HS → Prop} (C : Cx X cX11_goesOn RX11 3 rm_X11_goesOn) (E : ReV X rm_X11_goesOn Q) (ht : (xh X).sig.returnType = none) (hn : (xh X).name = yX11_goesOn.name) {X89 : Nat → Int32 → HS → Prop} (hX89 : ∀ (v0 : Nat) (v2 : Int32) (S : HS), X89 v0 v2 S → WS X 3 0 0 89 [(0, .ref v0), (2, .int v2)] [] S) {v0 : Nat} {v2 : Int32} {S : HS} (h : B_X11_goesOn_89 Q X89 v0 v2 S) : WS X 3 0 0 89 [(0, .ref v0), (2, .int v2)] [] S := by
  refine r_aload_n (pc := 89) C dX11_goesOn_89 0 rfl ?_
  refine r_aload_n (pc := 90) C dX11_goesOn_90 0 rfl ?_
  obtain ⟨o_v0, h⟩ := h
  refine r_geti (pc := 91) C fL_X11_71 dX11_goesOn_91 o_v0 ?_
  refine r_topi (fun x1 ex1 => ?_)
  have h := h x1 ex1
  refine r_callVi0 (pc := 94) C (rest := []) (a := v0) o_v0 [.int x1] yV_X11_byteAt g_1384 (c_X11_byteAt h) dX11_goesOn_94 rfl rfl (Nat.le_of_ble_eq_true rfl) ⟨by decide, by decide⟩ ⟨by decide, by decide⟩ ⟨rfl, rfl⟩ (fun x4 S2 h g3 => ?_)
  have h := h g3
  have o_v0 := gr_ob g3 o_v0
  refine r_callSi0 (pc := 97) C (rest := []) rfl [.int x4] yS_X11_isLetter g_1388 (c_X11_isLetter h) dX11_goesOn_97 rfl rfl (Nat.le_of_ble_eq_true rfl) ⟨by decide, by decide⟩ ⟨by decide, by decide⟩ ⟨rfl, rfl⟩ (fun x7 S5 h g6 => ?_)
  have bx7 := h.1
  have h := h.2 g6 bx7
  have o_v0 := gr_ob g6 o_v0
  refine r_if_eq (pc := 100) C (tgt := 152) dX11_goesOn_100 (by decide) (fun c8 => ?_) (fun c8 => ?_)
  · have h := h.1 c8
    refine r_iload_n (pc := 152) C dX11_goesOn_152 1 rfl ?_
    refine r_bipush (pc := 153) C (v := (8 : Int32)) dX11_goesOn_153 (by decide) ?_
    refine r_icmp_gt (pc := 155) C (tgt := 281) dX11_goesOn_155 (by decide) (fun c9 => ?_) (fun c9 => ?_)
    · have h := h.1 c9
      exact r_vret (pc := 281) C E ht dX11_goesOn_281 (by decide) (by decide) h
    · have h := h.2 c9
      refine r_aload_n (pc := 158) C dX11_goesOn_158 0 rfl ?_
      refine r_iconst (pc := 159) C (v := (2 : Int32)) dX11_goesOn_159 (by decide) ?_
      refine r_puti (pc := 160) C pfL_X11_68 dX11_goesOn_160 o_v0 ?_
      refine r_heap (fun S10 eS10 => ?_)
      have h := h S10 eS10
      have o_v0 := ob_I eS10 o_v0
      refine r_goto (pc := 163) C (tgt := 281) dX11_goesOn_163 (by decide) ?_
      exact r_vret (pc := 281) C E ht dX11_goesOn_281 (by decide) (by decide) h
  · have h := h.2 c8
    refine r_iload_n (pc := 103) C dX11_goesOn_103 1 rfl ?_
    refine r_bipush (pc := 104) C (v := (8 : Int32)) dX11_goesOn_104 (by decide) ?_
    refine r_icmp_ge (pc := 106) C (tgt := 136) dX11_goesOn_106 (by decide) (fun c11 => ?_) (fun c11 => ?_)
    · have h := h.1 c11
      exact r_sub [0, 1] rfl (T_X11_goesOn_136 C E ht hn hX89 h)
    · have h := h.2 c11
      refine r_aload_n (pc := 109) C dX11_goesOn_109 0 rfl ?_
      refine r_ldc2 (pc := 110) C (v := (32 : Int64)) dX11_goesOn_110 g_1391 ?_
      refine r_aload_n (pc := 113) C dX11_goesOn_113 0 rfl ?_
      refine r_getl (pc := 114) C fL_X11_87 dX11_goesOn_114 o_v0 ?_
      refine r_topl (fun x12 ex12 => ?_)
      have h := h x12 ex12
      refine r_lmul (pc := 117) C dX11_goesOn_117 ?_
      refine r_aload_n (pc := 118) C dX11_goesOn_118 0 rfl ?_
      refine r_aload_n (pc := 119) C dX11_goesOn_119 0 rfl ?_
      refine r_geti (pc := 120) C fL_X11_71 dX11_goesOn_120 o_v0 ?_
      refine r_topi (fun x13 ex13 => ?_)
      have h := h x13 ex13
      refine r_callVi0 (pc := 123) C (rest := [.long ((32 : Int64) * x12), .ref v0]) (a := v0) o_v0 [.int x13] yV_X11_byteAt g_1384 (c_X11_byteAt h) dX11_goesOn_123 rfl rfl (Nat.le_of_ble_eq_true rfl) ⟨by decide, by decide⟩ ⟨by decide, by decide⟩ ⟨rfl, rfl⟩ (fun x16 S14 h g15 => ?_)
      have h := h g15
      have o_v0 := gr_ob g15 o_v0
      refine r_bipush (pc := 126) C (v := (97 : Int32)) dX11_goesOn_126 (by decide) ?_
      refine r_isub (pc := 128) C dX11_goesOn_128 ?_
      refine r_iconst (pc := 129) C (v := (1 : Int32)) dX11_goesOn_129 (by decide) ?_
      refine r_iadd (pc := 130) C dX11_goesOn_130 ?_
      refine r_i2l (pc := 131) C dX11_goesOn_131 ?_
      refine r_ladd (pc := 132) C dX11_goesOn_132 ?_
      refine r_topl (fun x17 ex17 => ?_)
      have h := h x17 ex17
      refine r_putl (pc := 133) C pfL_X11_87 dX11_goesOn_133 o_v0 ?_
      refine r_heap (fun S18 eS18 => ?_)
      have h := h S18 eS18
      have o_v0 := ob_J eS18 o_v0
      exact r_sub [0, 1] rfl (T_X11_goesOn_136 C E ht hn hX89 h)
theorem T_X11_goesOn_89 {X : CX} {Q : HS → Prop} (C : Cx X cX11_goesOn RX11 3 rm_X11_goesOn) (E : ReV X rm_X11_goesOn Q) (ht : (xh X).sig.returnType = none) (hn : (xh X).name = yX11_goesOn.name) {v0 : Nat} {v2 : Int32} {S : HS} (h : P_X11_goesOn_89 Q v0 v2 S) : WS X 3 0 0 89 [(0, .ref v0), (2, .int v2)] [] S :=
  h (fun v0 v2 S => WS X 3 0 0 89 [(0, .ref v0), (2, .int v2)] [] S) (fun v0 v2 S hh => TB_X11_goesOn_89 C E ht hn (fun v0 v2 S z => z) hh)
def P_X11_goesOn_220 (Q : HS → Prop) (X178 : Nat → Int32 → HS → Prop) (v0 : Nat) (v2 : Int32) (S : HS) : Prop := ∀ x1 : Int32, x1 = v2 + (1 : Int32) → (ob S v0 11 ∧ (∀ x2 : Int32, x2 = fI S v0 8 → (∀ x3 : Int32, x3 = x2 + (1 : Int32) → (∀ S4 : HS, S4 = sI S v0 8 x3 → (X178 v0 x1 S4)))))
set_option maxRecDepth 20000 in
set_option maxHeartbeats 4000000 in
theorem T_X11_goesOn_220 {X : CX} {Q : HS → Prop} (C : Cx X cX11_goesOn RX11 3 rm_X11_goesOn) (E : ReV X rm_X11_goesOn Q) (ht : (xh X).sig.returnType = none) (hn : (xh X).name = yX11_goesOn.name) {X178 : Nat → Int32 → HS → Prop} (hX178 : ∀ (v0 : Nat) (v2 : Int32) (S : HS), X178 v0 v2 S → WS X 3 0 0 178 [(0, .ref v0), (2, .int v2)] [] S) {v0 : Nat} {v2 : Int32} {S : HS} (h : P_X11_goesOn_220 Q X178 v0 v2 S) : WS X 3 0 0 220 [(0, .ref v0), (2, .int v2)] [] S := by
  obtain ⟨x1, ex1⟩ : ∃ z : Int32, z = v2 + (1 : Int32) := ⟨_, rfl⟩
  have h := h x1 ex1
  refine r_iinc (pc := 220) C (v := x1) (lv' := [(2, .int x1), (0, .ref v0)]) dX11_goesOn_220 1 rfl ex1.symm (by decide) rfl ?_
  refine r_aload_n (pc := 223) C dX11_goesOn_223 1 rfl ?_
  refine r_dup (pc := 224) C dX11_goesOn_224 rfl ?_
  obtain ⟨o_v0, h⟩ := h
  refine r_geti (pc := 225) C fL_X11_71 dX11_goesOn_225 o_v0 ?_
  refine r_topi (fun x2 ex2 => ?_)
  have h := h x2 ex2
  refine r_iconst (pc := 228) C (v := (1 : Int32)) dX11_goesOn_228 (by decide) ?_
  refine r_iadd (pc := 229) C dX11_goesOn_229 ?_
  refine r_topi (fun x3 ex3 => ?_)
  have h := h x3 ex3
  refine r_puti (pc := 230) C pfL_X11_71 dX11_goesOn_230 o_v0 ?_
  refine r_heap (fun S4 eS4 => ?_)
  have h := h S4 eS4
  have o_v0 := ob_I eS4 o_v0
  refine r_goto (pc := 233) C (tgt := 178) dX11_goesOn_233 (by decide) ?_
  exact r_sub [1, 0] rfl (hX178 v0 x1 S4 h)
def B_X11_goesOn_178 (Q : HS → Prop) (X178 : Nat → Int32 → HS → Prop) (v0 : Nat) (v2 : Int32) (S : HS) : Prop := ob S v0 11 ∧ (∀ x1 : Int32, x1 = fI S v0 8 → (P_X11_byteAt v0 x1 (fun x4 S2 => Gr S S2 → (P_X11_isDigit x4 (fun x7 S5 => Gr S2 S5 → bl x7 → (((x7 = 0) → ((((3 : Int32) < v2) → (Q S5)) ∧ ((¬ (3 : Int32) < v2) → (∀ S10 : HS, S10 = sI S5 v0 9 (3 : Int32) → (Q S10))))) ∧ ((¬ x7 = 0) → ((((3 : Int32) ≤ v2) → (P_X11_goesOn_220 Q X178 v0 v2 S5)) ∧ ((¬ (3 : Int32) ≤ v2) → (∀ x12 : Int32, x12 = fI S5 v0 12 → (∀ x13 : Int32, x13 = fI S5 v0 8 → (P_X11_byteAt v0 x13 (fun x16 S14 => Gr S5 S14 → (∀ x17 : Int32, x17 = (((10 : Int32) * x12) + x16) - (48 : Int32) → (∀ S18 : HS, S18 = sI S14 v0 12 x17 → (P_X11_goesOn_220 Q X178 v0 v2 S18)))) S5)))))))) S2)) S))
def P_X11_goesOn_178 (Q : HS → Prop) (v0 : Nat) (v2 : Int32) (S : HS) : Prop := ∀ X178 : Nat → Int32 → HS → Prop, (∀ (v0 : Nat) (v2 : Int32) (S : HS), B_X11_goesOn_178 Q X178 v0 v2 S → X178 v0 v2 S) → X178 v0 v2 S
set_option maxRecDepth 20000 in
set_option maxHeartbeats 4000000 in
theorem TB_X11_goesOn_178 {X : CX} {Q : HS → Prop} (C : Cx X cX11_goesOn RX11 3 rm_X11_goesOn) (E : ReV X rm_X11_goesOn Q) (ht : (xh X).sig.returnType = none) (hn : (xh X).name = yX11_goesOn.name) {X178 : Nat → Int32 → HS → Prop} (hX178 : ∀ (v0 : Nat) (v2 : Int32) (S : HS), X178 v0 v2 S → WS X 3 0 0 178 [(0, .ref v0), (2, .int v2)] [] S) {v0 : Nat} {v2 : Int32} {S : HS} (h : B_X11_goesOn_178 Q X178 v0 v2 S) : WS X 3 0 0 178 [(0, .ref v0), (2, .int v2)] [] S := by
  refine r_aload_n (pc := 178) C dX11_goesOn_178 0 rfl ?_
  refine r_aload_n (pc := 179) C dX11_goesOn_179 0 rfl ?_
  obtain ⟨o_v0, h⟩ := h
  refine r_geti (pc := 180) C fL_X11_71 dX11_goesOn_180 o_v0 ?_
  refine r_topi (fun x1 ex1 => ?_)
  have h := h x1 ex1
  refine r_callVi0 (pc := 183) C (rest := []) (a := v0) o_v0 [.int x1] yV_X11_byteAt g_1384 (c_X11_byteAt h) dX11_goesOn_183 rfl rfl (Nat.le_of_ble_eq_true rfl) ⟨by decide, by decide⟩ ⟨by decide, by decide⟩ ⟨rfl, rfl⟩ (fun x4 S2 h g3 => ?_)
  have h := h g3
  have o_v0 := gr_ob g3 o_v0
  refine r_callSi0 (pc := 186) C (rest := []) rfl [.int x4] yS_X11_isDigit g_1392 (c_X11_isDigit h) dX11_goesOn_186 rfl rfl (Nat.le_of_ble_eq_true rfl) ⟨by decide, by decide⟩ ⟨by decide, by decide⟩ ⟨rfl, rfl⟩ (fun x7 S5 h g6 => ?_)
  have bx7 := h.1
  have h := h.2 g6 bx7
  have o_v0 := gr_ob g6 o_v0
  refine r_if_eq (pc := 189) C (tgt := 236) dX11_goesOn_189 (by decide) (fun c8 => ?_) (fun c8 => ?_)
  · have h := h.1 c8
    refine r_iload_n (pc := 236) C dX11_goesOn_236 1 rfl ?_
    refine r_iconst (pc := 237) C (v := (3 : Int32)) dX11_goesOn_237 (by decide) ?_
    refine r_icmp_gt (pc := 238) C (tgt := 281) dX11_goesOn_238 (by decide) (fun c9 => ?_) (fun c9 => ?_)
    · have h := h.1 c9
      exact r_vret (pc := 281) C E ht dX11_goesOn_281 (by decide) (by decide) h
    · have h := h.2 c9
      refine r_aload_n (pc := 241) C dX11_goesOn_241 0 rfl ?_
      refine r_iconst (pc := 242) C (v := (3 : Int32)) dX11_goesOn_242 (by decide) ?_
      refine r_puti (pc := 243) C pfL_X11_68 dX11_goesOn_243 o_v0 ?_
      refine r_heap (fun S10 eS10 => ?_)
      have h := h S10 eS10
      have o_v0 := ob_I eS10 o_v0
      refine r_goto (pc := 246) C (tgt := 281) dX11_goesOn_246 (by decide) ?_
      exact r_vret (pc := 281) C E ht dX11_goesOn_281 (by decide) (by decide) h
  · have h := h.2 c8
    refine r_iload_n (pc := 192) C dX11_goesOn_192 1 rfl ?_
    refine r_iconst (pc := 193) C (v := (3 : Int32)) dX11_goesOn_193 (by decide) ?_
    refine r_icmp_ge (pc := 194) C (tgt := 220) dX11_goesOn_194 (by decide) (fun c11 => ?_) (fun c11 => ?_)
    · have h := h.1 c11
      exact r_sub [0, 1] rfl (T_X11_goesOn_220 C E ht hn hX178 h)
    · have h := h.2 c11
      refine r_aload_n (pc := 197) C dX11_goesOn_197 0 rfl ?_
      refine r_bipush (pc := 198) C (v := (10 : Int32)) dX11_goesOn_198 (by decide) ?_
      refine r_aload_n (pc := 200) C dX11_goesOn_200 0 rfl ?_
      refine r_geti (pc := 201) C fL_X11_94 dX11_goesOn_201 o_v0 ?_
      refine r_topi (fun x12 ex12 => ?_)
      have h := h x12 ex12
      refine r_imul (pc := 204) C dX11_goesOn_204 ?_
      refine r_aload_n (pc := 205) C dX11_goesOn_205 0 rfl ?_
      refine r_aload_n (pc := 206) C dX11_goesOn_206 0 rfl ?_
      refine r_geti (pc := 207) C fL_X11_71 dX11_goesOn_207 o_v0 ?_
      refine r_topi (fun x13 ex13 => ?_)
      have h := h x13 ex13
      refine r_callVi0 (pc := 210) C (rest := [.int ((10 : Int32) * x12), .ref v0]) (a := v0) o_v0 [.int x13] yV_X11_byteAt g_1384 (c_X11_byteAt h) dX11_goesOn_210 rfl rfl (Nat.le_of_ble_eq_true rfl) ⟨by decide, by decide⟩ ⟨by decide, by decide⟩ ⟨rfl, rfl⟩ (fun x16 S14 h g15 => ?_)
      have h := h g15
      have o_v0 := gr_ob g15 o_v0
      refine r_iadd (pc := 213) C dX11_goesOn_213 ?_
      refine r_bipush (pc := 214) C (v := (48 : Int32)) dX11_goesOn_214 (by decide) ?_
      refine r_isub (pc := 216) C dX11_goesOn_216 ?_
      refine r_topi (fun x17 ex17 => ?_)
      have h := h x17 ex17
      refine r_puti (pc := 217) C pfL_X11_94 dX11_goesOn_217 o_v0 ?_
      refine r_heap (fun S18 eS18 => ?_)
      have h := h S18 eS18
      have o_v0 := ob_I eS18 o_v0
      exact r_sub [0, 1] rfl (T_X11_goesOn_220 C E ht hn hX178 h)
theorem T_X11_goesOn_178 {X : CX} {Q : HS → Prop} (C : Cx X cX11_goesOn RX11 3 rm_X11_goesOn) (E : ReV X rm_X11_goesOn Q) (ht : (xh X).sig.returnType = none) (hn : (xh X).name = yX11_goesOn.name) {v0 : Nat} {v2 : Int32} {S : HS} (h : P_X11_goesOn_178 Q v0 v2 S) : WS X 3 0 0 178 [(0, .ref v0), (2, .int v2)] [] S :=
  h (fun v0 v2 S => WS X 3 0 0 178 [(0, .ref v0), (2, .int v2)] [] S) (fun v0 v2 S hh => TB_X11_goesOn_178 C E ht hn (fun v0 v2 S z => z) hh)
def P_X11_goesOn_261 (Q : HS → Prop) (v0 : Nat) (v1 : Int32) (S : HS) : Prop := ob S v0 11 ∧ (∀ S1 : HS, S1 = sI S v0 9 (4 : Int32) → (∀ S2 : HS, S2 = sI S1 v0 11 v1 → (∀ x3 : Int32, x3 = fI S2 v0 8 → (∀ x4 : Int32, x4 = x3 + (1 : Int32) → (∀ S5 : HS, S5 = sI S2 v0 8 x4 → (Q S5))))))
set_option maxRecDepth 20000 in
set_option maxHeartbeats 4000000 in
theorem T_X11_goesOn_261 {X : CX} {Q : HS → Prop} (C : Cx X cX11_goesOn RX11 3 rm_X11_goesOn) (E : ReV X rm_X11_goesOn Q) (ht : (xh X).sig.returnType = none) (hn : (xh X).name = yX11_goesOn.name) {v0 : Nat} {v1 : Int32} {S : HS} (h : P_X11_goesOn_261 Q v0 v1 S) : WS X 3 0 0 261 [(0, .ref v0), (1, .int v1)] [] S := by
  refine r_aload_n (pc := 261) C dX11_goesOn_261 0 rfl ?_
  refine r_iconst (pc := 262) C (v := (4 : Int32)) dX11_goesOn_262 (by decide) ?_
  obtain ⟨o_v0, h⟩ := h
  refine r_puti (pc := 263) C pfL_X11_68 dX11_goesOn_263 o_v0 ?_
  refine r_heap (fun S1 eS1 => ?_)
  have h := h S1 eS1
  have o_v0 := ob_I eS1 o_v0
  refine r_aload_n (pc := 266) C dX11_goesOn_266 0 rfl ?_
  refine r_iload_n (pc := 267) C dX11_goesOn_267 1 rfl ?_
  refine r_puti (pc := 268) C pfL_X11_80 dX11_goesOn_268 o_v0 ?_
  refine r_heap (fun S2 eS2 => ?_)
  have h := h S2 eS2
  have o_v0 := ob_I eS2 o_v0
  refine r_aload_n (pc := 271) C dX11_goesOn_271 0 rfl ?_
  refine r_dup (pc := 272) C dX11_goesOn_272 rfl ?_
  refine r_geti (pc := 273) C fL_X11_71 dX11_goesOn_273 o_v0 ?_
  refine r_topi (fun x3 ex3 => ?_)
  have h := h x3 ex3
  refine r_iconst (pc := 276) C (v := (1 : Int32)) dX11_goesOn_276 (by decide) ?_
  refine r_iadd (pc := 277) C dX11_goesOn_277 ?_
  refine r_topi (fun x4 ex4 => ?_)
  have h := h x4 ex4
  refine r_puti (pc := 278) C pfL_X11_71 dX11_goesOn_278 o_v0 ?_
  refine r_heap (fun S5 eS5 => ?_)
  have h := h S5 eS5
  have o_v0 := ob_I eS5 o_v0
  exact r_vret (pc := 281) C E ht dX11_goesOn_281 (by decide) (by decide) h
def B_X11_goesOn_9 (Q : HS → Prop) (X9 : Nat → HS → Prop) (v0 : Nat) (S : HS) : Prop := ob S v0 11 ∧ (∀ x1 : Int32, x1 = fI S v0 8 → (P_X11_byteAt v0 x1 (fun x4 S2 => Gr S S2 → (((¬ x4 = (32 : Int32)) → (∀ x6 : Int32, x6 = fI S2 v0 8 → (∀ S7 : HS, S7 = sI S2 v0 10 x6 → (∀ S8 : HS, S8 = sI S7 v0 9 (0 : Int32) → (∀ S9 : HS, S9 = sI S8 v0 11 (0 : Int32) → (∀ x10 : Int32, x10 = fI S9 v0 8 → (P_X11_byteAt v0 x10 (fun x13 S11 => Gr S9 S11 → (((¬ x13 = (-1 : Int32)) → (P_X11_isLetter x13 (fun x17 S15 => Gr S11 S15 → bl x17 → (((x17 = 0) → (P_X11_isDigit x13 (fun x21 S19 => Gr S15 S19 → bl x21 → (((x21 = 0) → (((x13 = (59 : Int32)) → (P_X11_goesOn_261 Q v0 x13 S19)) ∧ ((¬ x13 = (59 : Int32)) → (((¬ x13 = (44 : Int32)) → (Q S19)) ∧ ((x13 = (44 : Int32)) → (P_X11_goesOn_261 Q v0 x13 S19)))))) ∧ ((¬ x21 = 0) → (∀ S25 : HS, S25 = sI S19 v0 12 (0 : Int32) → (P_X11_goesOn_178 Q v0 (0 : Int32) S25))))) S15)) ∧ ((¬ x17 = 0) → (∀ S26 : HS, S26 = sJ S15 v0 15 (0 : Int64) → (P_X11_goesOn_89 Q v0 (0 : Int32) S26))))) S11)) ∧ ((x13 = (-1 : Int32)) → (∀ S27 : HS, S27 = sI S11 v0 9 (1 : Int32) → (Q S27))))) S9))))))) ∧ ((x4 = (32 : Int32)) → (∀ x28 : Int32, x28 = fI S2 v0 8 → (∀ x29 : Int32, x29 = x28 + (1 : Int32) → (∀ S30 : HS, S30 = sI S2 v0 8 x29 → (X9 v0 S30))))))) S))
def P_X11_goesOn_9 (Q : HS → Prop) (v0 : Nat) (S : HS) : Prop := ∀ X9 : Nat → HS → Prop, (∀ (v0 : Nat) (S : HS), B_X11_goesOn_9 Q X9 v0 S → X9 v0 S) → X9 v0 S
set_option maxRecDepth 20000 in
set_option maxHeartbeats 4000000 in
theorem TB_X11_goesOn_9 {X : CX} {Q : HS → Prop} (C : Cx X cX11_goesOn RX11 3 rm_X11_goesOn) (E : ReV X rm_X11_goesOn Q) (ht : (xh X).sig.returnType = none) (hn : (xh X).name = yX11_goesOn.name) {X9 : Nat → HS → Prop} (hX9 : ∀ (v0 : Nat) (S : HS), X9 v0 S → WS X 3 0 0 9 [(0, .ref v0)] [] S) {v0 : Nat} {S : HS} (h : B_X11_goesOn_9 Q X9 v0 S) : WS X 3 0 0 9 [(0, .ref v0)] [] S := by
  refine r_aload_n (pc := 9) C dX11_goesOn_9 0 rfl ?_
  refine r_aload_n (pc := 10) C dX11_goesOn_10 0 rfl ?_
  obtain ⟨o_v0, h⟩ := h
  refine r_geti (pc := 11) C fL_X11_71 dX11_goesOn_11 o_v0 ?_
  refine r_topi (fun x1 ex1 => ?_)
  have h := h x1 ex1
  refine r_callVi0 (pc := 14) C (rest := []) (a := v0) o_v0 [.int x1] yV_X11_byteAt g_1384 (c_X11_byteAt h) dX11_goesOn_14 rfl rfl (Nat.le_of_ble_eq_true rfl) ⟨by decide, by decide⟩ ⟨by decide, by decide⟩ ⟨rfl, rfl⟩ (fun x4 S2 h g3 => ?_)
  have h := h g3
  have o_v0 := gr_ob g3 o_v0
  refine r_bipush (pc := 17) C (v := (32 : Int32)) dX11_goesOn_17 (by decide) ?_
  refine r_icmp_ne (pc := 19) C (tgt := 35) dX11_goesOn_19 (by decide) (fun c5 => ?_) (fun c5 => ?_)
  · have h := h.1 c5
    refine r_aload_n (pc := 35) C dX11_goesOn_35 0 rfl ?_
    refine r_aload_n (pc := 36) C dX11_goesOn_36 0 rfl ?_
    refine r_geti (pc := 37) C fL_X11_71 dX11_goesOn_37 o_v0 ?_
    refine r_topi (fun x6 ex6 => ?_)
    have h := h x6 ex6
    refine r_puti (pc := 40) C pfL_X11_77 dX11_goesOn_40 o_v0 ?_
    refine r_heap (fun S7 eS7 => ?_)
    have h := h S7 eS7
    have o_v0 := ob_I eS7 o_v0
    refine r_aload_n (pc := 43) C dX11_goesOn_43 0 rfl ?_
    refine r_iconst (pc := 44) C (v := (0 : Int32)) dX11_goesOn_44 (by decide) ?_
    refine r_puti (pc := 45) C pfL_X11_68 dX11_goesOn_45 o_v0 ?_
    refine r_heap (fun S8 eS8 => ?_)
    have h := h S8 eS8
    have o_v0 := ob_I eS8 o_v0
    refine r_aload_n (pc := 48) C dX11_goesOn_48 0 rfl ?_
    refine r_iconst (pc := 49) C (v := (0 : Int32)) dX11_goesOn_49 (by decide) ?_
    refine r_puti (pc := 50) C pfL_X11_80 dX11_goesOn_50 o_v0 ?_
    refine r_heap (fun S9 eS9 => ?_)
    have h := h S9 eS9
    have o_v0 := ob_I eS9 o_v0
    refine r_aload_n (pc := 53) C dX11_goesOn_53 0 rfl ?_
    refine r_aload_n (pc := 54) C dX11_goesOn_54 0 rfl ?_
    refine r_geti (pc := 55) C fL_X11_71 dX11_goesOn_55 o_v0 ?_
    refine r_topi (fun x10 ex10 => ?_)
    have h := h x10 ex10
    refine r_callVi0 (pc := 58) C (rest := []) (a := v0) o_v0 [.int x10] yV_X11_byteAt g_1384 (c_X11_byteAt h) dX11_goesOn_58 rfl rfl (Nat.le_of_ble_eq_true rfl) ⟨by decide, by decide⟩ ⟨by decide, by decide⟩ ⟨rfl, rfl⟩ (fun x13 S11 h g12 => ?_)
    have h := h g12
    have o_v0 := gr_ob g12 o_v0
    refine r_istore_n (pc := 61) C dX11_goesOn_61 rfl (by decide) (lv' := [(1, .int x13), (0, .ref v0)]) rfl ?_
    refine r_iconst (pc := 62) C (v := (0 : Int32)) dX11_goesOn_62 (by decide) ?_
    refine r_istore_n (pc := 63) C dX11_goesOn_63 rfl (by decide) (lv' := [(2, .int (0 : Int32)), (1, .int x13), (0, .ref v0)]) rfl ?_
    refine r_iload_n (pc := 64) C dX11_goesOn_64 1 rfl ?_
    refine r_iconst (pc := 65) C (v := (-1 : Int32)) dX11_goesOn_65 (by decide) ?_
    refine r_icmp_ne (pc := 66) C (tgt := 77) dX11_goesOn_66 (by decide) (fun c14 => ?_) (fun c14 => ?_)
    · have h := h.1 c14
      refine r_iload_n (pc := 77) C dX11_goesOn_77 1 rfl ?_
      refine r_callSi0 (pc := 78) C (rest := []) rfl [.int x13] yS_X11_isLetter g_1388 (c_X11_isLetter h) dX11_goesOn_78 rfl rfl (Nat.le_of_ble_eq_true rfl) ⟨by decide, by decide⟩ ⟨by decide, by decide⟩ ⟨rfl, rfl⟩ (fun x17 S15 h g16 => ?_)
      have bx17 := h.1
      have h := h.2 g16 bx17
      have o_v0 := gr_ob g16 o_v0
      refine r_if_eq (pc := 81) C (tgt := 166) dX11_goesOn_81 (by decide) (fun c18 => ?_) (fun c18 => ?_)
      · have h := h.1 c18
        refine r_iload_n (pc := 166) C dX11_goesOn_166 1 rfl ?_
        refine r_callSi0 (pc := 167) C (rest := []) rfl [.int x13] yS_X11_isDigit g_1392 (c_X11_isDigit h) dX11_goesOn_167 rfl rfl (Nat.le_of_ble_eq_true rfl) ⟨by decide, by decide⟩ ⟨by decide, by decide⟩ ⟨rfl, rfl⟩ (fun x21 S19 h g20 => ?_)
        have bx21 := h.1
        have h := h.2 g20 bx21
        have o_v0 := gr_ob g20 o_v0
        refine r_if_eq (pc := 170) C (tgt := 249) dX11_goesOn_170 (by decide) (fun c22 => ?_) (fun c22 => ?_)
        · have h := h.1 c22
          refine r_iload_n (pc := 249) C dX11_goesOn_249 1 rfl ?_
          refine r_bipush (pc := 250) C (v := (59 : Int32)) dX11_goesOn_250 (by decide) ?_
          refine r_icmp_eq (pc := 252) C (tgt := 261) dX11_goesOn_252 (by decide) (fun c23 => ?_) (fun c23 => ?_)
          · have h := h.1 c23
            exact r_sub [2, 1] rfl (T_X11_goesOn_261 C E ht hn h)
          · have h := h.2 c23
            refine r_iload_n (pc := 255) C dX11_goesOn_255 1 rfl ?_
            refine r_bipush (pc := 256) C (v := (44 : Int32)) dX11_goesOn_256 (by decide) ?_
            refine r_icmp_ne (pc := 258) C (tgt := 281) dX11_goesOn_258 (by decide) (fun c24 => ?_) (fun c24 => ?_)
            · have h := h.1 c24
              exact r_vret (pc := 281) C E ht dX11_goesOn_281 (by decide) (by decide) h
            · have h := h.2 c24
              exact r_sub [2, 1] rfl (T_X11_goesOn_261 C E ht hn h)
        · have h := h.2 c22
          refine r_aload_n (pc := 173) C dX11_goesOn_173 2 rfl ?_
          refine r_iconst (pc := 174) C (v := (0 : Int32)) dX11_goesOn_174 (by decide) ?_
          refine r_puti (pc := 175) C pfL_X11_94 dX11_goesOn_175 o_v0 ?_
          refine r_heap (fun S25 eS25 => ?_)
          have h := h S25 eS25
          have o_v0 := ob_I eS25 o_v0
          exact r_sub [2, 0] rfl (T_X11_goesOn_178 C E ht hn h)
      · have h := h.2 c18
        refine r_aload_n (pc := 84) C dX11_goesOn_84 2 rfl ?_
        refine r_lconst (pc := 85) C (v := (0 : Int64)) dX11_goesOn_85 (by decide) ?_
        refine r_putl (pc := 86) C pfL_X11_87 dX11_goesOn_86 o_v0 ?_
        refine r_heap (fun S26 eS26 => ?_)
        have h := h S26 eS26
        have o_v0 := ob_J eS26 o_v0
        exact r_sub [2, 0] rfl (T_X11_goesOn_89 C E ht hn h)
    · have h := h.2 c14
      refine r_aload_n (pc := 69) C dX11_goesOn_69 2 rfl ?_
      refine r_iconst (pc := 70) C (v := (1 : Int32)) dX11_goesOn_70 (by decide) ?_
      refine r_puti (pc := 71) C pfL_X11_68 dX11_goesOn_71 o_v0 ?_
      refine r_heap (fun S27 eS27 => ?_)
      have h := h S27 eS27
      have o_v0 := ob_I eS27 o_v0
      refine r_goto (pc := 74) C (tgt := 281) dX11_goesOn_74 (by decide) ?_
      exact r_vret (pc := 281) C E ht dX11_goesOn_281 (by decide) (by decide) h
  · have h := h.2 c5
    refine r_aload_n (pc := 22) C dX11_goesOn_22 0 rfl ?_
    refine r_dup (pc := 23) C dX11_goesOn_23 rfl ?_
    refine r_geti (pc := 24) C fL_X11_71 dX11_goesOn_24 o_v0 ?_
    refine r_topi (fun x28 ex28 => ?_)
    have h := h x28 ex28
    refine r_iconst (pc := 27) C (v := (1 : Int32)) dX11_goesOn_27 (by decide) ?_
    refine r_iadd (pc := 28) C dX11_goesOn_28 ?_
    refine r_topi (fun x29 ex29 => ?_)
    have h := h x29 ex29
    refine r_puti (pc := 29) C pfL_X11_71 dX11_goesOn_29 o_v0 ?_
    refine r_heap (fun S30 eS30 => ?_)
    have h := h S30 eS30
    have o_v0 := ob_I eS30 o_v0
    refine r_goto (pc := 32) C (tgt := 9) dX11_goesOn_32 (by decide) ?_
    exact r_sub [0] rfl (hX9 v0 S30 h)
theorem T_X11_goesOn_9 {X : CX} {Q : HS → Prop} (C : Cx X cX11_goesOn RX11 3 rm_X11_goesOn) (E : ReV X rm_X11_goesOn Q) (ht : (xh X).sig.returnType = none) (hn : (xh X).name = yX11_goesOn.name) {v0 : Nat} {S : HS} (h : P_X11_goesOn_9 Q v0 S) : WS X 3 0 0 9 [(0, .ref v0)] [] S :=
  h (fun v0 S => WS X 3 0 0 9 [(0, .ref v0)] [] S) (fun v0 S hh => TB_X11_goesOn_9 C E ht hn (fun v0 S z => z) hh)
def P_X11_goesOn_0 (Q : HS → Prop) (v0 : Nat) (S : HS) : Prop := ob S v0 11 ∧ (∀ x1 : Int32, x1 = fI S v0 9 → (((¬ x1 = (5 : Int32)) → (P_X11_goesOn_9 Q v0 S)) ∧ ((x1 = (5 : Int32)) → (Q S))))
set_option maxRecDepth 20000 in
set_option maxHeartbeats 4000000 in
theorem T_X11_goesOn_0 {X : CX} {Q : HS → Prop} (C : Cx X cX11_goesOn RX11 3 rm_X11_goesOn) (E : ReV X rm_X11_goesOn Q) (ht : (xh X).sig.returnType = none) (hn : (xh X).name = yX11_goesOn.name) {v0 : Nat} {S : HS} (h : P_X11_goesOn_0 Q v0 S) : WS X 3 0 0 0 [(0, .ref v0)] [] S := by
  refine r_aload_n (pc := 0) C dX11_goesOn_0 0 rfl ?_
  obtain ⟨o_v0, h⟩ := h
  refine r_geti (pc := 1) C fL_X11_68 dX11_goesOn_1 o_v0 ?_
  refine r_topi (fun x1 ex1 => ?_)
  have h := h x1 ex1
  refine r_iconst (pc := 4) C (v := (5 : Int32)) dX11_goesOn_4 (by decide) ?_
  refine r_icmp_ne (pc := 5) C (tgt := 9) dX11_goesOn_5 (by decide) (fun c2 => ?_) (fun c2 => ?_)
  · have h := h.1 c2
    exact r_sub [0] rfl (T_X11_goesOn_9 C E ht hn h)
  · have h := h.2 c2
    exact r_vret (pc := 8) C E ht dX11_goesOn_8 (by decide) (by decide) h
def P_X11_goesOn (v0 : Nat) (Q : HS → Prop) (S : HS) : Prop := P_X11_goesOn_0 Q v0 S
theorem c_X11_goesOn {l : Launch} {Ee : EE} {S : HS} {v0 : Nat} {Q : HS → Prop} (h : P_X11_goesOn v0 Q S) : MV l yX11_goesOn cX11_goesOn 3 none rm_X11_goesOn Ee S [.ref v0] Q :=
  openV (by decide) (Nat.le_of_ble_eq_true rfl) (fun X C E ht hn hE hl => by subst hE; exact r_sub [0] rfl (T_X11_goesOn_0 C E ht hn h))
def rm_X11_begins : Room := { frames := 2, cells := 0, slots := 0, locals := 43 }
def P_X11_begins_26 (Q : HS → Prop) (v0 : Nat) (S : HS) : Prop := ob S v0 11 ∧ (P_X11_goesOn v0 (fun S1 => Gr S S1 → (Q S1)) S)
set_option maxRecDepth 20000 in
set_option maxHeartbeats 4000000 in
theorem T_X11_begins_26 {X : CX} {Q : HS → Prop} (C : Cx X cX11_begins RX11 3 rm_X11_begins) (E : ReV X rm_X11_begins Q) (ht : (xh X).sig.returnType = none) (hn : (xh X).name = yX11_begins.name) {v0 : Nat} {S : HS} (h : P_X11_begins_26 Q v0 S) : WS X 3 0 0 26 [(0, .ref v0)] [] S := by
  refine r_aload_n (pc := 26) C dX11_begins_26 0 rfl ?_
  obtain ⟨o_v0, h⟩ := h
  refine r_callVv0 (pc := 27) C (rest := []) (a := v0) o_v0 [] yV_X11_goesOn g_1380 (c_X11_goesOn h) dX11_begins_27 rfl rfl (Nat.le_of_ble_eq_true rfl) ⟨by decide, by decide⟩ ⟨by decide, by decide⟩ ⟨rfl, rfl⟩ (fun S1 h g2 => ?_)
  have h := h g2
  have o_v0 := gr_ob g2 o_v0
  exact r_vret (pc := 30) C E ht dX11_begins_30 (by decide) (by decide) h
def P_X11_begins_10 (Q : HS → Prop) (v0 : Nat) (S : HS) : Prop := ob S v0 11 ∧ (∃ a1 : Nat, fR S v0 4 = some a1 ∧ (ob S a1 10 ∧ (∀ x2 : Int32, x2 = fI S a1 0 → (((¬ x2 = 0) → (P_X11_begins_26 Q v0 S)) ∧ ((x2 = 0) → (P_X11_flaw v0 (6 : Int32) (fun S4 => Gr S S4 → (P_X11_begins_26 Q v0 S4)) S))))))
set_option maxRecDepth 20000 in
set_option maxHeartbeats 4000000 in
theorem T_X11_begins_10 {X : CX} {Q : HS → Prop} (C : Cx X cX11_begins RX11 3 rm_X11_begins) (E : ReV X rm_X11_begins Q) (ht : (xh X).sig.returnType = none) (hn : (xh X).name = yX11_begins.name) {v0 : Nat} {S : HS} (h : P_X11_begins_10 Q v0 S) : WS X 3 0 0 10 [(0, .ref v0)] [] S := by
  refine r_aload_n (pc := 10) C dX11_begins_10 0 rfl ?_
  obtain ⟨o_v0, h⟩ := h
  obtain ⟨a1, ea1, h⟩ := h
  refine r_getr (pc := 11) C fL_X11_147 dX11_begins_11 o_v0 ea1 ?_
  obtain ⟨o_a1, h⟩ := h
  refine r_getNi (pc := 14) C fN_X11_151 dX11_begins_14 o_a1 ?_
  refine r_topi (fun x2 ex2 => ?_)
  have h := h x2 ex2
  refine r_if_ne (pc := 17) C (tgt := 26) dX11_begins_17 (by decide) (fun c3 => ?_) (fun c3 => ?_)
  · have h := h.1 c3
    exact r_sub [0] rfl (T_X11_begins_26 C E ht hn h)
  · have h := h.2 c3
    refine r_aload_n (pc := 20) C dX11_begins_20 0 rfl ?_
    refine r_bipush (pc := 21) C (v := (6 : Int32)) dX11_begins_21 (by decide) ?_
    refine r_callVv0 (pc := 23) C (rest := []) (a := v0) o_v0 [.int (6 : Int32)] yV_X11_flaw g_1417 (c_X11_flaw h) dX11_begins_23 rfl rfl (Nat.le_of_ble_eq_true rfl) ⟨by decide, by decide⟩ ⟨by decide, by decide⟩ ⟨rfl, rfl⟩ (fun S4 h g5 => ?_)
    have h := h g5
    have o_a1 := gr_ob g5 o_a1
    have o_v0 := gr_ob g5 o_v0
    exact r_sub [0] rfl (T_X11_begins_26 C E ht hn h)
def P_X11_begins_0 (Q : HS → Prop) (v0 : Nat) (v1 : Int32) (v2 : Int32) (S : HS) : Prop := ((¬ v1 = v2) → (P_X11_begins_10 Q v0 S)) ∧ ((v1 = v2) → (ob S v0 11 ∧ (P_X11_flaw v0 (5 : Int32) (fun S2 => Gr S S2 → (P_X11_begins_10 Q v0 S2)) S)))
set_option maxRecDepth 20000 in
set_option maxHeartbeats 4000000 in
theorem T_X11_begins_0 {X : CX} {Q : HS → Prop} (C : Cx X cX11_begins RX11 3 rm_X11_begins) (E : ReV X rm_X11_begins Q) (ht : (xh X).sig.returnType = none) (hn : (xh X).name = yX11_begins.name) {v0 : Nat} {v1 : Int32} {v2 : Int32} {S : HS} (h : P_X11_begins_0 Q v0 v1 v2 S) : WS X 3 0 0 0 [(0, .ref v0), (1, .int v1), (2, .int v2)] [] S := by
  refine r_iload_n (pc := 0) C dX11_begins_0 1 rfl ?_
  refine r_iload_n (pc := 1) C dX11_begins_1 2 rfl ?_
  refine r_icmp_ne (pc := 2) C (tgt := 10) dX11_begins_2 (by decide) (fun c1 => ?_) (fun c1 => ?_)
  · have h := h.1 c1
    exact r_sub [0] rfl (T_X11_begins_10 C E ht hn h)
  · have h := h.2 c1
    refine r_aload_n (pc := 5) C dX11_begins_5 0 rfl ?_
    refine r_iconst (pc := 6) C (v := (5 : Int32)) dX11_begins_6 (by decide) ?_
    obtain ⟨o_v0, h⟩ := h
    refine r_callVv0 (pc := 7) C (rest := []) (a := v0) o_v0 [.int (5 : Int32)] yV_X11_flaw g_1417 (c_X11_flaw h) dX11_begins_7 rfl rfl (Nat.le_of_ble_eq_true rfl) ⟨by decide, by decide⟩ ⟨by decide, by decide⟩ ⟨rfl, rfl⟩ (fun S2 h g3 => ?_)
    have h := h g3
    have o_v0 := gr_ob g3 o_v0
    exact r_sub [0] rfl (T_X11_begins_10 C E ht hn h)
def P_X11_begins (v0 : Nat) (v1 : Int32) (v2 : Int32) (Q : HS → Prop) (S : HS) : Prop := P_X11_begins_0 Q v0 v1 v2 S
theorem c_X11_begins {l : Launch} {Ee : EE} {S : HS} {v0 : Nat} {v1 : Int32} {v2 : Int32} {Q : HS → Prop} (h : P_X11_begins v0 v1 v2 Q S) : MV l yX11_begins cX11_begins 3 none rm_X11_begins Ee S [.ref v0, .int v1, .int v2] Q :=
  openV (by decide) (Nat.le_of_ble_eq_true rfl) (fun X C E ht hn hE hl => by subst hE; exact r_sub [0, 1, 2] rfl (T_X11_begins_0 C E ht hn h))
def rm_X11_isForward : Room := { frames := 2, cells := 0, slots := 0, locals := 46 }
def P_X11_isForward_112 (Q : Int32 → HS → Prop) (v0 : Nat) (v4 : Int32) (v7 : Int32) (v8 : Int32) (v9 : Int32) (s0 : Int32) (S : HS) : Prop := ((s0 = 0) → (Q (0 : Int32) S)) ∧ ((¬ s0 = 0) → (((v7 ≤ 0) → (Q (0 : Int32) S)) ∧ ((¬ v7 ≤ 0) → (ob S v0 11 ∧ (∃ a3 : Nat, fR S v0 3 = some a3 ∧ (ob S a3 10 ∧ (∃ a4 : Nat, fR S a3 7 = some a4 ∧ (ob S a4 13 ∧ (vp_in v4 (hN S a4) ∧ ∀ x6 : Int32, x6 = fI S a4 v4.toNatClampNeg → (∃ a7 : Nat, fR S v0 3 = some a7 ∧ (ob S a7 10 ∧ (∃ a8 : Nat, fR S a7 7 = some a8 ∧ (ob S a8 13 ∧ (vp_in v4 (hN S a8) ∧ ∀ x10 : Int32, x10 = fI S a8 v4.toNatClampNeg → (∃ a11 : Nat, fR S v0 3 = some a11 ∧ (ob S a11 10 ∧ (∃ a12 : Nat, fR S a11 8 = some a12 ∧ (ob S a12 13 ∧ (vp_in v4 (hN S a12) ∧ ∀ x14 : Int32, x14 = fI S a12 v4.toNatClampNeg → (((((x6 * v7) * v8) ≤ ((x10 * x14) * v9)) → (Q (0 : Int32) S)) ∧ ((¬ ((x6 * v7) * v8) ≤ ((x10 * x14) * v9)) → (Q (1 : Int32) S))))))))))))))))))))))
set_option maxRecDepth 20000 in
set_option maxHeartbeats 4000000 in
theorem T_X11_isForward_112 {X : CX} {Q : Int32 → HS → Prop} (C : Cx X cX11_isForward RX11 11 rm_X11_isForward) (E : ReI X rm_X11_isForward (fun r S => bl r ∧ Q r S)) (ht : (xh X).sig.returnType = (some .boolean)) (hn : (xh X).name = yX11_isForward.name) {v0 : Nat} {v4 : Int32} {v7 : Int32} {v8 : Int32} {v9 : Int32} {s0 : Int32} {S : HS} (h : P_X11_isForward_112 Q v0 v4 v7 v8 v9 s0 S) : WS X 11 0 0 112 [(0, .ref v0), (4, .int v4), (7, .int v7), (8, .int v8), (9, .int v9)] [.int s0] S := by
  refine r_istore (pc := 112) C dX11_isForward_112 (by decide) (lv' := [(10, .int s0), (0, .ref v0), (4, .int v4), (7, .int v7), (8, .int v8), (9, .int v9)]) rfl ?_
  refine r_iload (pc := 114) C dX11_isForward_114 0 rfl ?_
  refine r_if_eq (pc := 116) C (tgt := 171) dX11_isForward_116 (by decide) (fun c1 => ?_) (fun c1 => ?_)
  · have h := h.1 c1
    refine r_iconst (pc := 171) C (v := (0 : Int32)) dX11_isForward_171 (by decide) ?_
    exact r_zret (pc := 172) C E ht dX11_isForward_172 (by decide) (by decide) (Or.inl rfl) h
  · have h := h.2 c1
    refine r_iload (pc := 119) C dX11_isForward_119 3 rfl ?_
    refine r_if_le (pc := 121) C (tgt := 171) dX11_isForward_121 (by decide) (fun c2 => ?_) (fun c2 => ?_)
    · have h := h.1 c2
      refine r_iconst (pc := 171) C (v := (0 : Int32)) dX11_isForward_171 (by decide) ?_
      exact r_zret (pc := 172) C E ht dX11_isForward_172 (by decide) (by decide) (Or.inl rfl) h
    · have h := h.2 c2
      refine r_aload_n (pc := 124) C dX11_isForward_124 1 rfl ?_
      obtain ⟨o_v0, h⟩ := h
      obtain ⟨a3, ea3, h⟩ := h
      refine r_getr (pc := 125) C fL_X11_338 dX11_isForward_125 o_v0 ea3 ?_
      obtain ⟨o_a3, h⟩ := h
      obtain ⟨a4, ea4, h⟩ := h
      refine r_getNr (pc := 128) C fN_X11_237 dX11_isForward_128 o_a3 ea4 ?_
      refine r_iload (pc := 131) C dX11_isForward_131 2 rfl ?_
      obtain ⟨o_a4, h⟩ := h
      obtain ⟨i5, h⟩ := h
      refine r_iald (pc := 133) C dX11_isForward_133 o_a4 i5 ?_
      refine r_topi (fun x6 ex6 => ?_)
      have h := h x6 ex6
      refine r_iload (pc := 134) C dX11_isForward_134 3 rfl ?_
      refine r_imul (pc := 136) C dX11_isForward_136 ?_
      refine r_iload (pc := 137) C dX11_isForward_137 4 rfl ?_
      refine r_imul (pc := 139) C dX11_isForward_139 ?_
      refine r_aload_n (pc := 140) C dX11_isForward_140 1 rfl ?_
      obtain ⟨a7, ea7, h⟩ := h
      refine r_getr (pc := 141) C fL_X11_338 dX11_isForward_141 o_v0 ea7 ?_
      obtain ⟨o_a7, h⟩ := h
      obtain ⟨a8, ea8, h⟩ := h
      refine r_getNr (pc := 144) C fN_X11_237 dX11_isForward_144 o_a7 ea8 ?_
      refine r_iload (pc := 147) C dX11_isForward_147 2 rfl ?_
      obtain ⟨o_a8, h⟩ := h
      obtain ⟨i9, h⟩ := h
      refine r_iald (pc := 149) C dX11_isForward_149 o_a8 i9 ?_
      refine r_topi (fun x10 ex10 => ?_)
      have h := h x10 ex10
      refine r_aload_n (pc := 150) C dX11_isForward_150 1 rfl ?_
      obtain ⟨a11, ea11, h⟩ := h
      refine r_getr (pc := 151) C fL_X11_338 dX11_isForward_151 o_v0 ea11 ?_
      obtain ⟨o_a11, h⟩ := h
      obtain ⟨a12, ea12, h⟩ := h
      refine r_getNr (pc := 154) C fN_X11_239 dX11_isForward_154 o_a11 ea12 ?_
      refine r_iload (pc := 157) C dX11_isForward_157 2 rfl ?_
      obtain ⟨o_a12, h⟩ := h
      obtain ⟨i13, h⟩ := h
      refine r_iald (pc := 159) C dX11_isForward_159 o_a12 i13 ?_
      refine r_topi (fun x14 ex14 => ?_)
      have h := h x14 ex14
      refine r_imul (pc := 160) C dX11_isForward_160 ?_
      refine r_iload (pc := 161) C dX11_isForward_161 5 rfl ?_
      refine r_imul (pc := 163) C dX11_isForward_163 ?_
      refine r_icmp_le (pc := 164) C (tgt := 171) dX11_isForward_164 (by decide) (fun c15 => ?_) (fun c15 => ?_)
      · have h := h.1 c15
        refine r_iconst (pc := 171) C (v := (0 : Int32)) dX11_isForward_171 (by decide) ?_
        exact r_zret (pc := 172) C E ht dX11_isForward_172 (by decide) (by decide) (Or.inl rfl) h
      · have h := h.2 c15
        refine r_iconst (pc := 167) C (v := (1 : Int32)) dX11_isForward_167 (by decide) ?_
        refine r_goto (pc := 168) C (tgt := 172) dX11_isForward_168 (by decide) ?_
        exact r_zret (pc := 172) C E ht dX11_isForward_172 (by decide) (by decide) (Or.inr rfl) h
def P_X11_isForward_84 (Q : Int32 → HS → Prop) (v0 : Nat) (v2 : Int32) (v4 : Int32) (v7 : Int32) (v8 : Int32) (s0 : Int32) (S : HS) : Prop := ob S v0 11 ∧ (∃ a1 : Nat, fR S v0 3 = some a1 ∧ (ob S a1 10 ∧ (∃ a2 : Nat, fR S a1 17 = some a2 ∧ (ob S a2 13 ∧ (vp_in v2 (hN S a2) ∧ ∀ x4 : Int32, x4 = fI S a2 v2.toNatClampNeg → (∃ a5 : Nat, fR S v0 3 = some a5 ∧ (ob S a5 10 ∧ (∃ a6 : Nat, fR S a5 16 = some a6 ∧ (ob S a6 13 ∧ (vp_in v2 (hN S a6) ∧ ∀ x8 : Int32, x8 = fI S a6 v2.toNatClampNeg → (((x8 ≤ x4) → (P_X11_isForward_112 Q v0 v4 v7 v8 s0 (0 : Int32) S)) ∧ ((¬ x8 ≤ x4) → (P_X11_isForward_112 Q v0 v4 v7 v8 s0 (1 : Int32) S)))))))))))))
set_option maxRecDepth 20000 in
set_option maxHeartbeats 4000000 in
theorem T_X11_isForward_84 {X : CX} {Q : Int32 → HS → Prop} (C : Cx X cX11_isForward RX11 11 rm_X11_isForward) (E : ReI X rm_X11_isForward (fun r S => bl r ∧ Q r S)) (ht : (xh X).sig.returnType = (some .boolean)) (hn : (xh X).name = yX11_isForward.name) {v0 : Nat} {v2 : Int32} {v4 : Int32} {v7 : Int32} {v8 : Int32} {s0 : Int32} {S : HS} (h : P_X11_isForward_84 Q v0 v2 v4 v7 v8 s0 S) : WS X 11 0 0 84 [(0, .ref v0), (2, .int v2), (4, .int v4), (7, .int v7), (8, .int v8)] [.int s0] S := by
  refine r_istore (pc := 84) C dX11_isForward_84 (by decide) (lv' := [(9, .int s0), (0, .ref v0), (2, .int v2), (4, .int v4), (7, .int v7), (8, .int v8)]) rfl ?_
  refine r_aload_n (pc := 86) C dX11_isForward_86 1 rfl ?_
  obtain ⟨o_v0, h⟩ := h
  obtain ⟨a1, ea1, h⟩ := h
  refine r_getr (pc := 87) C fL_X11_338 dX11_isForward_87 o_v0 ea1 ?_
  obtain ⟨o_a1, h⟩ := h
  obtain ⟨a2, ea2, h⟩ := h
  refine r_getNr (pc := 90) C fN_X11_282 dX11_isForward_90 o_a1 ea2 ?_
  refine r_iload_n (pc := 93) C dX11_isForward_93 2 rfl ?_
  obtain ⟨o_a2, h⟩ := h
  obtain ⟨i3, h⟩ := h
  refine r_iald (pc := 94) C dX11_isForward_94 o_a2 i3 ?_
  refine r_topi (fun x4 ex4 => ?_)
  have h := h x4 ex4
  refine r_aload_n (pc := 95) C dX11_isForward_95 1 rfl ?_
  obtain ⟨a5, ea5, h⟩ := h
  refine r_getr (pc := 96) C fL_X11_338 dX11_isForward_96 o_v0 ea5 ?_
  obtain ⟨o_a5, h⟩ := h
  obtain ⟨a6, ea6, h⟩ := h
  refine r_getNr (pc := 99) C fN_X11_279 dX11_isForward_99 o_a5 ea6 ?_
  refine r_iload_n (pc := 102) C dX11_isForward_102 2 rfl ?_
  obtain ⟨o_a6, h⟩ := h
  obtain ⟨i7, h⟩ := h
  refine r_iald (pc := 103) C dX11_isForward_103 o_a6 i7 ?_
  refine r_topi (fun x8 ex8 => ?_)
  have h := h x8 ex8
  refine r_icmp_ge (pc := 104) C (tgt := 111) dX11_isForward_104 (by decide) (fun c9 => ?_) (fun c9 => ?_)
  · have h := h.1 c9
    refine r_iconst (pc := 111) C (v := (0 : Int32)) dX11_isForward_111 (by decide) ?_
    exact r_sub [1, 3, 4, 5, 0] rfl (T_X11_isForward_112 C E ht hn h)
  · have h := h.2 c9
    refine r_iconst (pc := 107) C (v := (1 : Int32)) dX11_isForward_107 (by decide) ?_
    refine r_goto (pc := 108) C (tgt := 112) dX11_isForward_108 (by decide) ?_
    exact r_sub [1, 3, 4, 5, 0] rfl (T_X11_isForward_112 C E ht hn h)
def P_X11_isForward_54 (Q : Int32 → HS → Prop) (v0 : Nat) (v1 : Int32) (v2 : Int32) (v4 : Int32) (v6 : Int32) (v7 : Int32) (s0 : Int32) (S : HS) : Prop := ob S v0 11 ∧ (∃ a1 : Nat, fR S v0 3 = some a1 ∧ (ob S a1 10 ∧ (∃ a2 : Nat, fR S a1 21 = some a2 ∧ (ob S a2 13 ∧ (vp_in v1 (hN S a2) ∧ ∀ x4 : Int32, x4 = fI S a2 v1.toNatClampNeg → (((x4 ≤ v6) → (∃ a6 : Nat, fR S v0 3 = some a6 ∧ (ob S a6 10 ∧ (∃ a7 : Nat, fR S a6 21 = some a7 ∧ (ob S a7 13 ∧ (vp_in v1 (hN S a7) ∧ ∀ x9 : Int32, x9 = fI S a7 v1.toNatClampNeg → (P_X11_isForward_84 Q v0 v2 v4 v7 s0 x9 S))))))) ∧ ((¬ x4 ≤ v6) → (P_X11_isForward_84 Q v0 v2 v4 v7 s0 v6 S))))))))
set_option maxRecDepth 20000 in
set_option maxHeartbeats 4000000 in
theorem T_X11_isForward_54 {X : CX} {Q : Int32 → HS → Prop} (C : Cx X cX11_isForward RX11 11 rm_X11_isForward) (E : ReI X rm_X11_isForward (fun r S => bl r ∧ Q r S)) (ht : (xh X).sig.returnType = (some .boolean)) (hn : (xh X).name = yX11_isForward.name) {v0 : Nat} {v1 : Int32} {v2 : Int32} {v4 : Int32} {v6 : Int32} {v7 : Int32} {s0 : Int32} {S : HS} (h : P_X11_isForward_54 Q v0 v1 v2 v4 v6 v7 s0 S) : WS X 11 0 0 54 [(0, .ref v0), (1, .int v1), (2, .int v2), (4, .int v4), (6, .int v6), (7, .int v7)] [.int s0] S := by
  refine r_istore (pc := 54) C dX11_isForward_54 (by decide) (lv' := [(8, .int s0), (0, .ref v0), (1, .int v1), (2, .int v2), (4, .int v4), (6, .int v6), (7, .int v7)]) rfl ?_
  refine r_iload (pc := 56) C dX11_isForward_56 5 rfl ?_
  refine r_aload_n (pc := 58) C dX11_isForward_58 1 rfl ?_
  obtain ⟨o_v0, h⟩ := h
  obtain ⟨a1, ea1, h⟩ := h
  refine r_getr (pc := 59) C fL_X11_338 dX11_isForward_59 o_v0 ea1 ?_
  obtain ⟨o_a1, h⟩ := h
  obtain ⟨a2, ea2, h⟩ := h
  refine r_getNr (pc := 62) C fN_X11_308 dX11_isForward_62 o_a1 ea2 ?_
  refine r_iload_n (pc := 65) C dX11_isForward_65 2 rfl ?_
  obtain ⟨o_a2, h⟩ := h
  obtain ⟨i3, h⟩ := h
  refine r_iald (pc := 66) C dX11_isForward_66 o_a2 i3 ?_
  refine r_topi (fun x4 ex4 => ?_)
  have h := h x4 ex4
  refine r_icmp_ge (pc := 67) C (tgt := 75) dX11_isForward_67 (by decide) (fun c5 => ?_) (fun c5 => ?_)
  · have h := h.1 c5
    refine r_aload_n (pc := 75) C dX11_isForward_75 1 rfl ?_
    obtain ⟨a6, ea6, h⟩ := h
    refine r_getr (pc := 76) C fL_X11_338 dX11_isForward_76 o_v0 ea6 ?_
    obtain ⟨o_a6, h⟩ := h
    obtain ⟨a7, ea7, h⟩ := h
    refine r_getNr (pc := 79) C fN_X11_308 dX11_isForward_79 o_a6 ea7 ?_
    refine r_iload_n (pc := 82) C dX11_isForward_82 2 rfl ?_
    obtain ⟨o_a7, h⟩ := h
    obtain ⟨i8, h⟩ := h
    refine r_iald (pc := 83) C dX11_isForward_83 o_a7 i8 ?_
    refine r_topi (fun x9 ex9 => ?_)
    have h := h x9 ex9
    exact r_sub [1, 3, 4, 6, 0] rfl (T_X11_isForward_84 C E ht hn h)
  · have h := h.2 c5
    refine r_iload (pc := 70) C dX11_isForward_70 5 rfl ?_
    refine r_goto (pc := 72) C (tgt := 84) dX11_isForward_72 (by decide) ?_
    exact r_sub [1, 3, 4, 6, 0] rfl (T_X11_isForward_84 C E ht hn h)
def P_X11_isForward_0 (Q : Int32 → HS → Prop) (v0 : Nat) (v1 : Int32) (v2 : Int32) (v3 : Int32) (v4 : Int32) (v5 : Int32) (S : HS) : Prop := ob S v0 11 ∧ (∃ a1 : Nat, fR S v0 3 = some a1 ∧ (ob S a1 10 ∧ (P_X10_shield a1 v1 (fun x4 S2 => Gr S S2 → (∃ a5 : Nat, fR S2 v0 3 = some a5 ∧ (ob S2 a5 10 ∧ (P_X10_air a5 v2 v3 v4 (fun x8 S6 => Gr S2 S6 → (∀ x9 : Int32, x9 = v5 - x8 → (∃ a10 : Nat, fR S6 v0 3 = some a10 ∧ (ob S6 a10 10 ∧ (∃ a11 : Nat, fR S6 a10 22 = some a11 ∧ (ob S6 a11 13 ∧ (vp_in v1 (hN S6 a11) ∧ ∀ x13 : Int32, x13 = fI S6 a11 v1.toNatClampNeg → (((x13 ≤ x4) → (∃ a15 : Nat, fR S6 v0 3 = some a15 ∧ (ob S6 a15 10 ∧ (∃ a16 : Nat, fR S6 a15 22 = some a16 ∧ (ob S6 a16 13 ∧ (vp_in v1 (hN S6 a16) ∧ ∀ x18 : Int32, x18 = fI S6 a16 v1.toNatClampNeg → (P_X11_isForward_54 Q v0 v1 v2 v4 x4 x9 x18 S6))))))) ∧ ((¬ x13 ≤ x4) → (P_X11_isForward_54 Q v0 v1 v2 v4 x4 x9 x4 S6)))))))))) S2)))) S)))
set_option maxRecDepth 20000 in
set_option maxHeartbeats 4000000 in
theorem T_X11_isForward_0 {X : CX} {Q : Int32 → HS → Prop} (C : Cx X cX11_isForward RX11 11 rm_X11_isForward) (E : ReI X rm_X11_isForward (fun r S => bl r ∧ Q r S)) (ht : (xh X).sig.returnType = (some .boolean)) (hn : (xh X).name = yX11_isForward.name) {v0 : Nat} {v1 : Int32} {v2 : Int32} {v3 : Int32} {v4 : Int32} {v5 : Int32} {S : HS} (h : P_X11_isForward_0 Q v0 v1 v2 v3 v4 v5 S) : WS X 11 0 0 0 [(0, .ref v0), (1, .int v1), (2, .int v2), (3, .int v3), (4, .int v4), (5, .int v5)] [] S := by
  refine r_aload_n (pc := 0) C dX11_isForward_0 0 rfl ?_
  obtain ⟨o_v0, h⟩ := h
  obtain ⟨a1, ea1, h⟩ := h
  refine r_getr (pc := 1) C fL_X11_338 dX11_isForward_1 o_v0 ea1 ?_
  refine r_iload_n (pc := 4) C dX11_isForward_4 1 rfl ?_
  obtain ⟨o_a1, h⟩ := h
  refine r_callVi0 (pc := 5) C (rest := []) (a := a1) o_a1 [.int v1] yV_X10_shield g_1578 (c_X10_shield h) dX11_isForward_5 rfl rfl (Nat.le_of_ble_eq_true rfl) ⟨by decide, by decide⟩ ⟨by decide, by decide⟩ ⟨rfl, rfl⟩ (fun x4 S2 h g3 => ?_)
  have h := h g3
  have o_a1 := gr_ob g3 o_a1
  have o_v0 := gr_ob g3 o_v0
  refine r_istore (pc := 8) C dX11_isForward_8 (by decide) (lv' := [(6, .int x4), (0, .ref v0), (1, .int v1), (2, .int v2), (3, .int v3), (4, .int v4), (5, .int v5)]) rfl ?_
  refine r_iload (pc := 10) C dX11_isForward_10 6 rfl ?_
  refine r_aload_n (pc := 12) C dX11_isForward_12 1 rfl ?_
  obtain ⟨a5, ea5, h⟩ := h
  refine r_getr (pc := 13) C fL_X11_338 dX11_isForward_13 o_v0 ea5 ?_
  refine r_iload_n (pc := 16) C dX11_isForward_16 3 rfl ?_
  refine r_iload_n (pc := 17) C dX11_isForward_17 4 rfl ?_
  refine r_iload (pc := 18) C dX11_isForward_18 5 rfl ?_
  obtain ⟨o_a5, h⟩ := h
  refine r_callVi0 (pc := 20) C (rest := [.int v5]) (a := a5) o_a5 [.int v2, .int v3, .int v4] yV_X10_air g_1562 (c_X10_air h) dX11_isForward_20 rfl rfl (Nat.le_of_ble_eq_true rfl) ⟨by decide, by decide⟩ ⟨by decide, by decide⟩ ⟨rfl, rfl⟩ (fun x8 S6 h g7 => ?_)
  have h := h g7
  have o_a1 := gr_ob g7 o_a1
  have o_a5 := gr_ob g7 o_a5
  have o_v0 := gr_ob g7 o_v0
  refine r_isub (pc := 23) C dX11_isForward_23 ?_
  refine r_topi (fun x9 ex9 => ?_)
  have h := h x9 ex9
  refine r_istore (pc := 24) C dX11_isForward_24 (by decide) (lv' := [(7, .int x9), (6, .int x4), (0, .ref v0), (1, .int v1), (2, .int v2), (3, .int v3), (4, .int v4), (5, .int v5)]) rfl ?_
  refine r_iload (pc := 26) C dX11_isForward_26 1 rfl ?_
  refine r_aload_n (pc := 28) C dX11_isForward_28 2 rfl ?_
  obtain ⟨a10, ea10, h⟩ := h
  refine r_getr (pc := 29) C fL_X11_338 dX11_isForward_29 o_v0 ea10 ?_
  obtain ⟨o_a10, h⟩ := h
  obtain ⟨a11, ea11, h⟩ := h
  refine r_getNr (pc := 32) C fN_X11_311 dX11_isForward_32 o_a10 ea11 ?_
  refine r_iload_n (pc := 35) C dX11_isForward_35 3 rfl ?_
  obtain ⟨o_a11, h⟩ := h
  obtain ⟨i12, h⟩ := h
  refine r_iald (pc := 36) C dX11_isForward_36 o_a11 i12 ?_
  refine r_topi (fun x13 ex13 => ?_)
  have h := h x13 ex13
  refine r_icmp_ge (pc := 37) C (tgt := 45) dX11_isForward_37 (by decide) (fun c14 => ?_) (fun c14 => ?_)
  · have h := h.1 c14
    refine r_aload_n (pc := 45) C dX11_isForward_45 2 rfl ?_
    obtain ⟨a15, ea15, h⟩ := h
    refine r_getr (pc := 46) C fL_X11_338 dX11_isForward_46 o_v0 ea15 ?_
    obtain ⟨o_a15, h⟩ := h
    obtain ⟨a16, ea16, h⟩ := h
    refine r_getNr (pc := 49) C fN_X11_311 dX11_isForward_49 o_a15 ea16 ?_
    refine r_iload_n (pc := 52) C dX11_isForward_52 3 rfl ?_
    obtain ⟨o_a16, h⟩ := h
    obtain ⟨i17, h⟩ := h
    refine r_iald (pc := 53) C dX11_isForward_53 o_a16 i17 ?_
    refine r_topi (fun x18 ex18 => ?_)
    have h := h x18 ex18
    exact r_sub [2, 3, 4, 6, 1, 0] rfl (T_X11_isForward_54 C E ht hn h)
  · have h := h.2 c14
    refine r_iload (pc := 40) C dX11_isForward_40 1 rfl ?_
    refine r_goto (pc := 42) C (tgt := 54) dX11_isForward_42 (by decide) ?_
    exact r_sub [2, 3, 4, 6, 1, 0] rfl (T_X11_isForward_54 C E ht hn h)
def P_X11_isForward (v0 : Nat) (v1 : Int32) (v2 : Int32) (v3 : Int32) (v4 : Int32) (v5 : Int32) (Q : Int32 → HS → Prop) (S : HS) : Prop := P_X11_isForward_0 Q v0 v1 v2 v3 v4 v5 S
theorem c_X11_isForward {l : Launch} {Ee : EE} {S : HS} {v0 : Nat} {v1 : Int32} {v2 : Int32} {v3 : Int32} {v4 : Int32} {v5 : Int32} {Q : Int32 → HS → Prop} (h : P_X11_isForward v0 v1 v2 v3 v4 v5 Q S) : MI l yX11_isForward cX11_isForward 11 (some .boolean) rm_X11_isForward Ee S [.ref v0, .int v1, .int v2, .int v3, .int v4, .int v5] (fun r S => bl r ∧ Q r S) :=
  openI (by decide) (Nat.le_of_ble_eq_true rfl) (fun X C E ht hn hE hl => by subst hE; exact r_sub [0, 1, 2, 3, 4, 5] rfl (T_X11_isForward_0 C E ht hn h))
def rm_X11_less : Room := { frames := 0, cells := 0, slots := 0, locals := 0 }
def P_X11_less_0 (Q : Int32 → HS → Prop) (v0 : Int32) (v1 : Int32) (S : HS) : Prop := ((v0 ≤ v1) → (Q (0 : Int32) S)) ∧ ((¬ v0 ≤ v1) → (Q (v0 - v1) S))
set_option maxRecDepth 20000 in
set_option maxHeartbeats 4000000 in
theorem T_X11_less_0 {X : CX} {Q : Int32 → HS → Prop} (C : Cx X cX11_less RX11 2 rm_X11_less) (E : ReI X rm_X11_less Q) (ht : (xh X).sig.returnType = (some .int)) (hn : (xh X).name = yX11_less.name) {v0 : Int32} {v1 : Int32} {S : HS} (h : P_X11_less_0 Q v0 v1 S) : WS X 2 0 0 0 [(0, .int v0), (1, .int v1)] [] S := by
  refine r_iload_n (pc := 0) C dX11_less_0 0 rfl ?_
  refine r_iload_n (pc := 1) C dX11_less_1 1 rfl ?_
  refine r_icmp_le (pc := 2) C (tgt := 11) dX11_less_2 (by decide) (fun c1 => ?_) (fun c1 => ?_)
  · have h := h.1 c1
    refine r_iconst (pc := 11) C (v := (0 : Int32)) dX11_less_11 (by decide) ?_
    exact r_iret (pc := 12) C E ht dX11_less_12 (by decide) (by decide) h
  · have h := h.2 c1
    refine r_iload_n (pc := 5) C dX11_less_5 0 rfl ?_
    refine r_iload_n (pc := 6) C dX11_less_6 1 rfl ?_
    refine r_isub (pc := 7) C dX11_less_7 ?_
    refine r_goto (pc := 8) C (tgt := 12) dX11_less_8 (by decide) ?_
    exact r_iret (pc := 12) C E ht dX11_less_12 (by decide) (by decide) h
def P_X11_less (v0 : Int32) (v1 : Int32) (Q : Int32 → HS → Prop) (S : HS) : Prop := P_X11_less_0 Q v0 v1 S
theorem c_X11_less {l : Launch} {Ee : EE} {S : HS} {v0 : Int32} {v1 : Int32} {Q : Int32 → HS → Prop} (h : P_X11_less v0 v1 Q S) : MI l yX11_less cX11_less 2 (some .int) rm_X11_less Ee S [.int v0, .int v1] Q :=
  openI (by decide) (Nat.le_of_ble_eq_true rfl) (fun X C E ht hn hE hl => by subst hE; exact r_sub [0, 1] rfl (T_X11_less_0 C E ht hn h))
def rm_X11_inTime : Room := { frames := 3, cells := 0, slots := 0, locals := 76 }
def P_X11_inTime_129 (Q : Int32 → HS → Prop) (s0 : Int32) (s1 : Int32) (s2 : Int32) (S : HS) : Prop := P_X11_less s1 s2 (fun x3 S1 => Gr S S1 → (Q (s0 * x3) S1)) S
set_option maxRecDepth 20000 in
set_option maxHeartbeats 4000000 in
theorem T_X11_inTime_129 {X : CX} {Q : Int32 → HS → Prop} (C : Cx X cX11_inTime RX11 14 rm_X11_inTime) (E : ReI X rm_X11_inTime Q) (ht : (xh X).sig.returnType = (some .int)) (hn : (xh X).name = yX11_inTime.name) {s0 : Int32} {s1 : Int32} {s2 : Int32} {S : HS} (h : P_X11_inTime_129 Q s0 s1 s2 S) : WS X 14 0 0 129 [] [.int s2, .int s1, .int s0] S := by
  refine r_callSi0 (pc := 129) C (rest := [.int s0]) rfl [.int s1, .int s2] yS_X11_less g_1582 (c_X11_less h) dX11_inTime_129 rfl rfl (Nat.le_of_ble_eq_true rfl) ⟨by decide, by decide⟩ ⟨by decide, by decide⟩ ⟨rfl, rfl⟩ (fun x3 S1 h g2 => ?_)
  have h := h g2
  refine r_imul (pc := 132) C dX11_inTime_132 ?_
  exact r_iret (pc := 133) C E ht dX11_inTime_133 (by decide) (by decide) h
def P_X11_inTime_164 (Q : Int32 → HS → Prop) (v7 : Int32) (s0 : Int32) (s1 : Int32) (s2 : Int32) (S : HS) : Prop := P_X11_less s1 s2 (fun x3 S1 => Gr S S1 → (P_X11_less x3 v7 (fun x6 S4 => Gr S1 S4 → (Q (s0 * x6) S4)) S1)) S
set_option maxRecDepth 20000 in
set_option maxHeartbeats 4000000 in
theorem T_X11_inTime_164 {X : CX} {Q : Int32 → HS → Prop} (C : Cx X cX11_inTime RX11 14 rm_X11_inTime) (E : ReI X rm_X11_inTime Q) (ht : (xh X).sig.returnType = (some .int)) (hn : (xh X).name = yX11_inTime.name) {v7 : Int32} {s0 : Int32} {s1 : Int32} {s2 : Int32} {S : HS} (h : P_X11_inTime_164 Q v7 s0 s1 s2 S) : WS X 14 0 0 164 [(7, .int v7)] [.int s2, .int s1, .int s0] S := by
  refine r_callSi0 (pc := 164) C (rest := [.int s0]) rfl [.int s1, .int s2] yS_X11_less g_1582 (c_X11_less h) dX11_inTime_164 rfl rfl (Nat.le_of_ble_eq_true rfl) ⟨by decide, by decide⟩ ⟨by decide, by decide⟩ ⟨rfl, rfl⟩ (fun x3 S1 h g2 => ?_)
  have h := h g2
  refine r_iload (pc := 167) C dX11_inTime_167 0 rfl ?_
  refine r_callSi0 (pc := 169) C (rest := [.int s0]) rfl [.int x3, .int v7] yS_X11_less g_1582 (c_X11_less h) dX11_inTime_169 rfl rfl (Nat.le_of_ble_eq_true rfl) ⟨by decide, by decide⟩ ⟨by decide, by decide⟩ ⟨rfl, rfl⟩ (fun x6 S4 h g5 => ?_)
  have h := h g5
  refine r_imul (pc := 172) C dX11_inTime_172 ?_
  refine r_goto (pc := 173) C (tgt := 177) dX11_inTime_173 (by decide) ?_
  exact r_iret (pc := 177) C E ht dX11_inTime_177 (by decide) (by decide) h
def P_X11_inTime_0 (Q : Int32 → HS → Prop) (v0 : Nat) (v1 : Int32) (v2 : Int32) (v3 : Int32) (v4 : Int32) (v5 : Int32) (v6 : Int32) (v7 : Int32) (v8 : Int32) (S : HS) : Prop := ob S v0 11 ∧ (∃ a1 : Nat, fR S v0 3 = some a1 ∧ (ob S a1 10 ∧ (∃ a2 : Nat, fR S a1 7 = some a2 ∧ (ob S a2 13 ∧ (vp_in v4 (hN S a2) ∧ ∀ x4 : Int32, x4 = fI S a2 v4.toNatClampNeg → (∃ a5 : Nat, fR S v0 3 = some a5 ∧ (ob S a5 10 ∧ (P_X10_air a5 v2 v3 v4 (fun x8 S6 => Gr S S6 → (∀ x9 : Int32, x9 = v5 - x8 → (∃ a10 : Nat, fR S6 v0 3 = some a10 ∧ (ob S6 a10 10 ∧ (P_X10_across a10 v2 v3 v4 (fun x13 S11 => Gr S6 S11 → (P_X11_isForward v0 v1 v2 v3 v4 v5 (fun x16 S14 => Gr S11 S14 → bl x16 → (∃ a17 : Nat, fR S14 v0 3 = some a17 ∧ (ob S14 a17 10 ∧ (P_X10_shield a17 v1 (fun x20 S18 => Gr S14 S18 → ((v6.toInt < 0 ∨ 3 < v6.toInt → (((0 ≤ x13) → (Q (0 : Int32) S18)) ∧ ((¬ 0 ≤ x13) → (∃ a23 : Nat, fR S18 v0 3 = some a23 ∧ (ob S18 a23 10 ∧ (∃ a24 : Nat, fR S18 a23 23 = some a24 ∧ (ob S18 a24 13 ∧ (vp_in v1 (hN S18 a24) ∧ ∀ x26 : Int32, x26 = fI S18 a24 v1.toNatClampNeg → (Q ((x4 * (-x13)) * x26) S18))))))))) ∧ (v6.toInt = 0 → (∃ a27 : Nat, fR S18 v0 3 = some a27 ∧ (ob S18 a27 10 ∧ (∃ a28 : Nat, fR S18 a27 8 = some a28 ∧ (ob S18 a28 13 ∧ (vp_in v4 (hN S18 a28) ∧ ∀ x30 : Int32, x30 = fI S18 a28 v4.toNatClampNeg → (∃ a31 : Nat, fR S18 v0 3 = some a31 ∧ (ob S18 a31 10 ∧ (∃ a32 : Nat, fR S18 a31 21 = some a32 ∧ (ob S18 a32 13 ∧ (vp_in v1 (hN S18 a32) ∧ ∀ x34 : Int32, x34 = fI S18 a32 v1.toNatClampNeg → (((x16 = 0) → (P_X11_inTime_129 Q (x4 * x30) x34 x20 S18)) ∧ ((¬ x16 = 0) → (P_X11_inTime_129 Q (x4 * x30) x34 (0 : Int32) S18)))))))))))))) ∧ (v6.toInt = 1 → (((x9 ≤ 0) → (Q (0 : Int32) S18)) ∧ ((¬ x9 ≤ 0) → (∃ a37 : Nat, fR S18 v0 3 = some a37 ∧ (ob S18 a37 10 ∧ (∃ a38 : Nat, fR S18 a37 22 = some a38 ∧ (ob S18 a38 13 ∧ (vp_in v1 (hN S18 a38) ∧ ∀ x40 : Int32, x40 = fI S18 a38 v1.toNatClampNeg → (((x16 = 0) → (P_X11_inTime_164 Q v7 (x4 * x9) x40 (0 : Int32) S18)) ∧ ((¬ x16 = 0) → (P_X11_inTime_164 Q v7 (x4 * x9) x40 x20 S18))))))))))) ∧ (v6.toInt = 2 → (((0 ≤ x9) → (Q (0 : Int32) S18)) ∧ ((¬ 0 ≤ x9) → (∃ a43 : Nat, fR S18 v0 3 = some a43 ∧ (ob S18 a43 10 ∧ (∃ a44 : Nat, fR S18 a43 22 = some a44 ∧ (ob S18 a44 13 ∧ (vp_in v1 (hN S18 a44) ∧ ∀ x46 : Int32, x46 = fI S18 a44 v1.toNatClampNeg → (P_X11_less x46 v8 (fun x49 S47 => Gr S18 S47 → (Q ((x4 * (-x9)) * x49) S47)) S18))))))))) ∧ (v6.toInt = 3 → (((x13 ≤ 0) → (Q (0 : Int32) S18)) ∧ ((¬ x13 ≤ 0) → (∃ a51 : Nat, fR S18 v0 3 = some a51 ∧ (ob S18 a51 10 ∧ (∃ a52 : Nat, fR S18 a51 23 = some a52 ∧ (ob S18 a52 13 ∧ (vp_in v1 (hN S18 a52) ∧ ∀ x54 : Int32, x54 = fI S18 a52 v1.toNatClampNeg → (Q ((x4 * x13) * x54) S18))))))))))) S14)))) S11)) S6))))) S))))))))
set_option maxRecDepth 20000 in
set_option maxHeartbeats 4000000 in
theorem T_X11_inTime_0 {X : CX} {Q : Int32 → HS → Prop} (C : Cx X cX11_inTime RX11 14 rm_X11_inTime) (E : ReI X rm_X11_inTime Q) (ht : (xh X).sig.returnType = (some .int)) (hn : (xh X).name = yX11_inTime.name) {v0 : Nat} {v1 : Int32} {v2 : Int32} {v3 : Int32} {v4 : Int32} {v5 : Int32} {v6 : Int32} {v7 : Int32} {v8 : Int32} {S : HS} (h : P_X11_inTime_0 Q v0 v1 v2 v3 v4 v5 v6 v7 v8 S) : WS X 14 0 0 0 [(0, .ref v0), (1, .int v1), (2, .int v2), (3, .int v3), (4, .int v4), (5, .int v5), (6, .int v6), (7, .int v7), (8, .int v8)] [] S := by
  refine r_aload_n (pc := 0) C dX11_inTime_0 0 rfl ?_
  obtain ⟨o_v0, h⟩ := h
  obtain ⟨a1, ea1, h⟩ := h
  refine r_getr (pc := 1) C fL_X11_338 dX11_inTime_1 o_v0 ea1 ?_
  obtain ⟨o_a1, h⟩ := h
  obtain ⟨a2, ea2, h⟩ := h
  refine r_getNr (pc := 4) C fN_X11_237 dX11_inTime_4 o_a1 ea2 ?_
  refine r_iload (pc := 7) C dX11_inTime_7 4 rfl ?_
  obtain ⟨o_a2, h⟩ := h
  obtain ⟨i3, h⟩ := h
  refine r_iald (pc := 9) C dX11_inTime_9 o_a2 i3 ?_
  refine r_topi (fun x4 ex4 => ?_)
  have h := h x4 ex4
  refine r_istore (pc := 10) C dX11_inTime_10 (by decide) (lv' := [(9, .int x4), (0, .ref v0), (1, .int v1), (2, .int v2), (3, .int v3), (4, .int v4), (5, .int v5), (6, .int v6), (7, .int v7), (8, .int v8)]) rfl ?_
  refine r_iload (pc := 12) C dX11_inTime_12 6 rfl ?_
  refine r_aload_n (pc := 14) C dX11_inTime_14 1 rfl ?_
  obtain ⟨a5, ea5, h⟩ := h
  refine r_getr (pc := 15) C fL_X11_338 dX11_inTime_15 o_v0 ea5 ?_
  refine r_iload_n (pc := 18) C dX11_inTime_18 3 rfl ?_
  refine r_iload_n (pc := 19) C dX11_inTime_19 4 rfl ?_
  refine r_iload (pc := 20) C dX11_inTime_20 5 rfl ?_
  obtain ⟨o_a5, h⟩ := h
  refine r_callVi0 (pc := 22) C (rest := [.int v5]) (a := a5) o_a5 [.int v2, .int v3, .int v4] yV_X10_air g_1562 (c_X10_air h) dX11_inTime_22 rfl rfl (Nat.le_of_ble_eq_true rfl) ⟨by decide, by decide⟩ ⟨by decide, by decide⟩ ⟨rfl, rfl⟩ (fun x8 S6 h g7 => ?_)
  have h := h g7
  have o_a1 := gr_ob g7 o_a1
  have o_a2 := gr_ob g7 o_a2
  have o_a5 := gr_ob g7 o_a5
  have o_v0 := gr_ob g7 o_v0
  refine r_isub (pc := 25) C dX11_inTime_25 ?_
  refine r_topi (fun x9 ex9 => ?_)
  have h := h x9 ex9
  refine r_istore (pc := 26) C dX11_inTime_26 (by decide) (lv' := [(10, .int x9), (9, .int x4), (0, .ref v0), (1, .int v1), (2, .int v2), (3, .int v3), (4, .int v4), (5, .int v5), (6, .int v6), (7, .int v7), (8, .int v8)]) rfl ?_
  refine r_aload_n (pc := 28) C dX11_inTime_28 2 rfl ?_
  obtain ⟨a10, ea10, h⟩ := h
  refine r_getr (pc := 29) C fL_X11_338 dX11_inTime_29 o_v0 ea10 ?_
  refine r_iload_n (pc := 32) C dX11_inTime_32 4 rfl ?_
  refine r_iload_n (pc := 33) C dX11_inTime_33 5 rfl ?_
  refine r_iload (pc := 34) C dX11_inTime_34 6 rfl ?_
  obtain ⟨o_a10, h⟩ := h
  refine r_callVi0 (pc := 36) C (rest := []) (a := a10) o_a10 [.int v2, .int v3, .int v4] yV_X10_across g_1570 (c_X10_across h) dX11_inTime_36 rfl rfl (Nat.le_of_ble_eq_true rfl) ⟨by decide, by decide⟩ ⟨by decide, by decide⟩ ⟨rfl, rfl⟩ (fun x13 S11 h g12 => ?_)
  have h := h g12
  have o_a1 := gr_ob g12 o_a1
  have o_a10 := gr_ob g12 o_a10
  have o_a2 := gr_ob g12 o_a2
  have o_a5 := gr_ob g12 o_a5
  have o_v0 := gr_ob g12 o_v0
  refine r_istore (pc := 39) C dX11_inTime_39 (by decide) (lv' := [(11, .int x13), (10, .int x9), (9, .int x4), (0, .ref v0), (1, .int v1), (2, .int v2), (3, .int v3), (4, .int v4), (5, .int v5), (6, .int v6), (7, .int v7), (8, .int v8)]) rfl ?_
  refine r_aload_n (pc := 41) C dX11_inTime_41 3 rfl ?_
  refine r_iload_n (pc := 42) C dX11_inTime_42 4 rfl ?_
  refine r_iload_n (pc := 43) C dX11_inTime_43 5 rfl ?_
  refine r_iload_n (pc := 44) C dX11_inTime_44 6 rfl ?_
  refine r_iload (pc := 45) C dX11_inTime_45 7 rfl ?_
  refine r_iload (pc := 47) C dX11_inTime_47 8 rfl ?_
  refine r_callVi0 (pc := 49) C (rest := []) (a := v0) o_v0 [.int v1, .int v2, .int v3, .int v4, .int v5] yV_X11_isForward g_1574 (c_X11_isForward h) dX11_inTime_49 rfl rfl (Nat.le_of_ble_eq_true rfl) ⟨by decide, by decide⟩ ⟨by decide, by decide⟩ ⟨rfl, rfl⟩ (fun x16 S14 h g15 => ?_)
  have bx16 := h.1
  have h := h.2 g15 bx16
  have o_a1 := gr_ob g15 o_a1
  have o_a10 := gr_ob g15 o_a10
  have o_a2 := gr_ob g15 o_a2
  have o_a5 := gr_ob g15 o_a5
  have o_v0 := gr_ob g15 o_v0
  refine r_istore (pc := 52) C dX11_inTime_52 (by decide) (lv' := [(12, .int x16), (11, .int x13), (10, .int x9), (9, .int x4), (0, .ref v0), (1, .int v1), (2, .int v2), (3, .int v3), (4, .int v4), (5, .int v5), (6, .int v6), (7, .int v7), (8, .int v8)]) rfl ?_
  refine r_aload_n (pc := 54) C dX11_inTime_54 4 rfl ?_
  obtain ⟨a17, ea17, h⟩ := h
  refine r_getr (pc := 55) C fL_X11_338 dX11_inTime_55 o_v0 ea17 ?_
  refine r_iload_n (pc := 58) C dX11_inTime_58 5 rfl ?_
  obtain ⟨o_a17, h⟩ := h
  refine r_callVi0 (pc := 59) C (rest := []) (a := a17) o_a17 [.int v1] yV_X10_shield g_1578 (c_X10_shield h) dX11_inTime_59 rfl rfl (Nat.le_of_ble_eq_true rfl) ⟨by decide, by decide⟩ ⟨by decide, by decide⟩ ⟨rfl, rfl⟩ (fun x20 S18 h g19 => ?_)
  have h := h g19
  have o_a1 := gr_ob g19 o_a1
  have o_a10 := gr_ob g19 o_a10
  have o_a17 := gr_ob g19 o_a17
  have o_a2 := gr_ob g19 o_a2
  have o_a5 := gr_ob g19 o_a5
  have o_v0 := gr_ob g19 o_v0
  refine r_istore (pc := 62) C dX11_inTime_62 (by decide) (lv' := [(13, .int x20), (12, .int x16), (11, .int x13), (10, .int x9), (9, .int x4), (0, .ref v0), (1, .int v1), (2, .int v2), (3, .int v3), (4, .int v4), (5, .int v5), (6, .int v6), (7, .int v7), (8, .int v8)]) rfl ?_
  refine r_iload (pc := 64) C dX11_inTime_64 11 rfl ?_
  refine r_table (pc := 66) C (tgt := 234) dX11_inTime_66 (by decide) (fun c21 => ?_) (fun j hj hx => ?_)
  · have h := h.1 c21
    refine r_iload (pc := 234) C dX11_inTime_234 2 rfl ?_
    refine r_if_ge (pc := 236) C (tgt := 258) dX11_inTime_236 (by decide) (fun c22 => ?_) (fun c22 => ?_)
    · have h := h.1 c22
      refine r_iconst (pc := 258) C (v := (0 : Int32)) dX11_inTime_258 (by decide) ?_
      exact r_iret (pc := 259) C E ht dX11_inTime_259 (by decide) (by decide) h
    · have h := h.2 c22
      refine r_iload (pc := 239) C dX11_inTime_239 4 rfl ?_
      refine r_iload (pc := 241) C dX11_inTime_241 2 rfl ?_
      refine r_ineg (pc := 243) C dX11_inTime_243 ?_
      refine r_imul (pc := 244) C dX11_inTime_244 ?_
      refine r_aload_n (pc := 245) C dX11_inTime_245 5 rfl ?_
      obtain ⟨a23, ea23, h⟩ := h
      refine r_getr (pc := 246) C fL_X11_338 dX11_inTime_246 o_v0 ea23 ?_
      obtain ⟨o_a23, h⟩ := h
      obtain ⟨a24, ea24, h⟩ := h
      refine r_getNr (pc := 249) C fN_X11_314 dX11_inTime_249 o_a23 ea24 ?_
      refine r_iload_n (pc := 252) C dX11_inTime_252 6 rfl ?_
      obtain ⟨o_a24, h⟩ := h
      obtain ⟨i25, h⟩ := h
      refine r_iald (pc := 253) C dX11_inTime_253 o_a24 i25 ?_
      refine r_topi (fun x26 ex26 => ?_)
      have h := h x26 ex26
      refine r_imul (pc := 254) C dX11_inTime_254 ?_
      refine r_goto (pc := 255) C (tgt := 259) dX11_inTime_255 (by decide) ?_
      exact r_iret (pc := 259) C E ht dX11_inTime_259 (by decide) (by decide) h
  · match j, hj, hx with
    | 0, _, hx =>
      refine ⟨30, 96, rfl, by decide, ?_⟩
      have h := h.2.1 (by simpa using hx)
      refine r_iload (pc := 96) C dX11_inTime_96 4 rfl ?_
      refine r_aload_n (pc := 98) C dX11_inTime_98 5 rfl ?_
      obtain ⟨a27, ea27, h⟩ := h
      refine r_getr (pc := 99) C fL_X11_338 dX11_inTime_99 o_v0 ea27 ?_
      obtain ⟨o_a27, h⟩ := h
      obtain ⟨a28, ea28, h⟩ := h
      refine r_getNr (pc := 102) C fN_X11_239 dX11_inTime_102 o_a27 ea28 ?_
      refine r_iload (pc := 105) C dX11_inTime_105 9 rfl ?_
      obtain ⟨o_a28, h⟩ := h
      obtain ⟨i29, h⟩ := h
      refine r_iald (pc := 107) C dX11_inTime_107 o_a28 i29 ?_
      refine r_topi (fun x30 ex30 => ?_)
      have h := h x30 ex30
      refine r_imul (pc := 108) C dX11_inTime_108 ?_
      refine r_aload_n (pc := 109) C dX11_inTime_109 5 rfl ?_
      obtain ⟨a31, ea31, h⟩ := h
      refine r_getr (pc := 110) C fL_X11_338 dX11_inTime_110 o_v0 ea31 ?_
      obtain ⟨o_a31, h⟩ := h
      obtain ⟨a32, ea32, h⟩ := h
      refine r_getNr (pc := 113) C fN_X11_308 dX11_inTime_113 o_a31 ea32 ?_
      refine r_iload_n (pc := 116) C dX11_inTime_116 6 rfl ?_
      obtain ⟨o_a32, h⟩ := h
      obtain ⟨i33, h⟩ := h
      refine r_iald (pc := 117) C dX11_inTime_117 o_a32 i33 ?_
      refine r_topi (fun x34 ex34 => ?_)
      have h := h x34 ex34
      refine r_iload (pc := 118) C dX11_inTime_118 1 rfl ?_
      refine r_if_eq (pc := 120) C (tgt := 127) dX11_inTime_120 (by decide) (fun c35 => ?_) (fun c35 => ?_)
      · have h := h.1 c35
        refine r_iload (pc := 127) C dX11_inTime_127 0 rfl ?_
        exact r_sub [] rfl (T_X11_inTime_129 C E ht hn h)
      · have h := h.2 c35
        refine r_iconst (pc := 123) C (v := (0 : Int32)) dX11_inTime_123 (by decide) ?_
        refine r_goto (pc := 124) C (tgt := 129) dX11_inTime_124 (by decide) ?_
        exact r_sub [] rfl (T_X11_inTime_129 C E ht hn h)
    | 1, _, hx =>
      refine ⟨68, 134, rfl, by decide, ?_⟩
      have h := h.2.2.1 (by simpa using hx)
      refine r_iload (pc := 134) C dX11_inTime_134 3 rfl ?_
      refine r_if_le (pc := 136) C (tgt := 176) dX11_inTime_136 (by decide) (fun c36 => ?_) (fun c36 => ?_)
      · have h := h.1 c36
        refine r_iconst (pc := 176) C (v := (0 : Int32)) dX11_inTime_176 (by decide) ?_
        exact r_iret (pc := 177) C E ht dX11_inTime_177 (by decide) (by decide) h
      · have h := h.2 c36
        refine r_iload (pc := 139) C dX11_inTime_139 4 rfl ?_
        refine r_iload (pc := 141) C dX11_inTime_141 3 rfl ?_
        refine r_imul (pc := 143) C dX11_inTime_143 ?_
        refine r_aload_n (pc := 144) C dX11_inTime_144 5 rfl ?_
        obtain ⟨a37, ea37, h⟩ := h
        refine r_getr (pc := 145) C fL_X11_338 dX11_inTime_145 o_v0 ea37 ?_
        obtain ⟨o_a37, h⟩ := h
        obtain ⟨a38, ea38, h⟩ := h
        refine r_getNr (pc := 148) C fN_X11_311 dX11_inTime_148 o_a37 ea38 ?_
        refine r_iload_n (pc := 151) C dX11_inTime_151 6 rfl ?_
        obtain ⟨o_a38, h⟩ := h
        obtain ⟨i39, h⟩ := h
        refine r_iald (pc := 152) C dX11_inTime_152 o_a38 i39 ?_
        refine r_topi (fun x40 ex40 => ?_)
        have h := h x40 ex40
        refine r_iload (pc := 153) C dX11_inTime_153 1 rfl ?_
        refine r_if_eq (pc := 155) C (tgt := 163) dX11_inTime_155 (by decide) (fun c41 => ?_) (fun c41 => ?_)
        · have h := h.1 c41
          refine r_iconst (pc := 163) C (v := (0 : Int32)) dX11_inTime_163 (by decide) ?_
          exact r_sub [12] rfl (T_X11_inTime_164 C E ht hn h)
        · have h := h.2 c41
          refine r_iload (pc := 158) C dX11_inTime_158 0 rfl ?_
          refine r_goto (pc := 160) C (tgt := 164) dX11_inTime_160 (by decide) ?_
          exact r_sub [12] rfl (T_X11_inTime_164 C E ht hn h)
    | 2, _, hx =>
      refine ⟨112, 178, rfl, by decide, ?_⟩
      have h := h.2.2.2.1 (by simpa using hx)
      refine r_iload (pc := 178) C dX11_inTime_178 3 rfl ?_
      refine r_if_ge (pc := 180) C (tgt := 207) dX11_inTime_180 (by decide) (fun c42 => ?_) (fun c42 => ?_)
      · have h := h.1 c42
        refine r_iconst (pc := 207) C (v := (0 : Int32)) dX11_inTime_207 (by decide) ?_
        exact r_iret (pc := 208) C E ht dX11_inTime_208 (by decide) (by decide) h
      · have h := h.2 c42
        refine r_iload (pc := 183) C dX11_inTime_183 4 rfl ?_
        refine r_iload (pc := 185) C dX11_inTime_185 3 rfl ?_
        refine r_ineg (pc := 187) C dX11_inTime_187 ?_
        refine r_imul (pc := 188) C dX11_inTime_188 ?_
        refine r_aload_n (pc := 189) C dX11_inTime_189 5 rfl ?_
        obtain ⟨a43, ea43, h⟩ := h
        refine r_getr (pc := 190) C fL_X11_338 dX11_inTime_190 o_v0 ea43 ?_
        obtain ⟨o_a43, h⟩ := h
        obtain ⟨a44, ea44, h⟩ := h
        refine r_getNr (pc := 193) C fN_X11_311 dX11_inTime_193 o_a43 ea44 ?_
        refine r_iload_n (pc := 196) C dX11_inTime_196 6 rfl ?_
        obtain ⟨o_a44, h⟩ := h
        obtain ⟨i45, h⟩ := h
        refine r_iald (pc := 197) C dX11_inTime_197 o_a44 i45 ?_
        refine r_topi (fun x46 ex46 => ?_)
        have h := h x46 ex46
        refine r_iload (pc := 198) C dX11_inTime_198 13 rfl ?_
        refine r_callSi0 (pc := 200) C (rest := [.int (x4 * (-x9))]) rfl [.int x46, .int v8] yS_X11_less g_1582 (c_X11_less h) dX11_inTime_200 rfl rfl (Nat.le_of_ble_eq_true rfl) ⟨by decide, by decide⟩ ⟨by decide, by decide⟩ ⟨rfl, rfl⟩ (fun x49 S47 h g48 => ?_)
        have h := h g48
        have o_a1 := gr_ob g48 o_a1
        have o_a10 := gr_ob g48 o_a10
        have o_a17 := gr_ob g48 o_a17
        have o_a2 := gr_ob g48 o_a2
        have o_a43 := gr_ob g48 o_a43
        have o_a44 := gr_ob g48 o_a44
        have o_a5 := gr_ob g48 o_a5
        have o_v0 := gr_ob g48 o_v0
        refine r_imul (pc := 203) C dX11_inTime_203 ?_
        refine r_goto (pc := 204) C (tgt := 208) dX11_inTime_204 (by decide) ?_
        exact r_iret (pc := 208) C E ht dX11_inTime_208 (by decide) (by decide) h
    | 3, _, hx =>
      refine ⟨143, 209, rfl, by decide, ?_⟩
      have h := h.2.2.2.2 (by simpa using hx)
      refine r_iload (pc := 209) C dX11_inTime_209 2 rfl ?_
      refine r_if_le (pc := 211) C (tgt := 232) dX11_inTime_211 (by decide) (fun c50 => ?_) (fun c50 => ?_)
      · have h := h.1 c50
        refine r_iconst (pc := 232) C (v := (0 : Int32)) dX11_inTime_232 (by decide) ?_
        exact r_iret (pc := 233) C E ht dX11_inTime_233 (by decide) (by decide) h
      · have h := h.2 c50
        refine r_iload (pc := 214) C dX11_inTime_214 4 rfl ?_
        refine r_iload (pc := 216) C dX11_inTime_216 2 rfl ?_
        refine r_imul (pc := 218) C dX11_inTime_218 ?_
        refine r_aload_n (pc := 219) C dX11_inTime_219 5 rfl ?_
        obtain ⟨a51, ea51, h⟩ := h
        refine r_getr (pc := 220) C fL_X11_338 dX11_inTime_220 o_v0 ea51 ?_
        obtain ⟨o_a51, h⟩ := h
        obtain ⟨a52, ea52, h⟩ := h
        refine r_getNr (pc := 223) C fN_X11_314 dX11_inTime_223 o_a51 ea52 ?_
        refine r_iload_n (pc := 226) C dX11_inTime_226 6 rfl ?_
        obtain ⟨o_a52, h⟩ := h
        obtain ⟨i53, h⟩ := h
        refine r_iald (pc := 227) C dX11_inTime_227 o_a52 i53 ?_
        refine r_topi (fun x54 ex54 => ?_)
        have h := h x54 ex54
        refine r_imul (pc := 228) C dX11_inTime_228 ?_
        refine r_goto (pc := 229) C (tgt := 233) dX11_inTime_229 (by decide) ?_
        exact r_iret (pc := 233) C E ht dX11_inTime_233 (by decide) (by decide) h
    | j + 4, hj, _ => exact absurd hj (by omega)
def P_X11_inTime (v0 : Nat) (v1 : Int32) (v2 : Int32) (v3 : Int32) (v4 : Int32) (v5 : Int32) (v6 : Int32) (v7 : Int32) (v8 : Int32) (Q : Int32 → HS → Prop) (S : HS) : Prop := P_X11_inTime_0 Q v0 v1 v2 v3 v4 v5 v6 v7 v8 S
theorem c_X11_inTime {l : Launch} {Ee : EE} {S : HS} {v0 : Nat} {v1 : Int32} {v2 : Int32} {v3 : Int32} {v4 : Int32} {v5 : Int32} {v6 : Int32} {v7 : Int32} {v8 : Int32} {Q : Int32 → HS → Prop} (h : P_X11_inTime v0 v1 v2 v3 v4 v5 v6 v7 v8 Q S) : MI l yX11_inTime cX11_inTime 14 (some .int) rm_X11_inTime Ee S [.ref v0, .int v1, .int v2, .int v3, .int v4, .int v5, .int v6, .int v7, .int v8] Q :=
  openI (by decide) (Nat.le_of_ble_eq_true rfl) (fun X C E ht hn hE hl => by subst hE; exact r_sub [0, 1, 2, 3, 4, 5, 6, 7, 8] rfl (T_X11_inTime_0 C E ht hn h))
end
section
def rm_X11_partsOf : Room := { frames := 4, cells := 0, slots := 0, locals := 109 }
def P_X11_partsOf_0 (Q : Int64 → HS → Prop) (v0 : Nat) (v1 : Int32) (v2 : Int32) (v3 : Int32) (v4 : Int32) (v5 : Int32) (v6 : Int32) (S : HS) : Prop := ob S v0 11 ∧ (P_X11_inTime v0 v1 v2 v3 v4 v5 v6 (0 : Int32) (0 : Int32) (fun x3 S1 => Gr S S1 → (∃ a4 : Nat, fR S1 v0 3 = some a4 ∧ (ob S1 a4 10 ∧ (∃ a5 : Nat, fR S1 a4 16 = some a5 ∧ (ob S1 a5 13 ∧ (vp_in v2 (hN S1 a5) ∧ ∀ x7 : Int32, x7 = fI S1 a5 v2.toNatClampNeg → (∃ a8 : Nat, fR S1 v0 3 = some a8 ∧ (ob S1 a8 10 ∧ (∃ a9 : Nat, fR S1 a8 17 = some a9 ∧ (ob S1 a9 13 ∧ (vp_in v2 (hN S1 a9) ∧ ∀ x11 : Int32, x11 = fI S1 a9 v2.toNatClampNeg → (¬ v5 = 0 ∧ ∀ x13 : Int32, x13 = (2520 : Int32) / v5 → (Q ((x3.toInt64 * ((x7 - x11).toInt64)) * x13.toInt64) S1))))))))))))) S)
set_option maxRecDepth 20000 in
set_option maxHeartbeats 4000000 in
theorem T_X11_partsOf_0 {X : CX} {Q : Int64 → HS → Prop} (C : Cx X cX11_partsOf RX11 7 rm_X11_partsOf) (E : ReJ X rm_X11_partsOf Q) (ht : (xh X).sig.returnType = (some .long)) (hn : (xh X).name = yX11_partsOf.name) {v0 : Nat} {v1 : Int32} {v2 : Int32} {v3 : Int32} {v4 : Int32} {v5 : Int32} {v6 : Int32} {S : HS} (h : P_X11_partsOf_0 Q v0 v1 v2 v3 v4 v5 v6 S) : WS X 7 0 0 0 [(0, .ref v0), (1, .int v1), (2, .int v2), (3, .int v3), (4, .int v4), (5, .int v5), (6, .int v6)] [] S := by
  refine r_aload_n (pc := 0) C dX11_partsOf_0 0 rfl ?_
  refine r_iload_n (pc := 1) C dX11_partsOf_1 1 rfl ?_
  refine r_iload_n (pc := 2) C dX11_partsOf_2 2 rfl ?_
  refine r_iload_n (pc := 3) C dX11_partsOf_3 3 rfl ?_
  refine r_iload (pc := 4) C dX11_partsOf_4 4 rfl ?_
  refine r_iload (pc := 6) C dX11_partsOf_6 5 rfl ?_
  refine r_iload (pc := 8) C dX11_partsOf_8 6 rfl ?_
  refine r_iconst (pc := 10) C (v := (0 : Int32)) dX11_partsOf_10 (by decide) ?_
  refine r_iconst (pc := 11) C (v := (0 : Int32)) dX11_partsOf_11 (by decide) ?_
  obtain ⟨o_v0, h⟩ := h
  refine r_callVi0 (pc := 12) C (rest := []) (a := v0) o_v0 [.int v1, .int v2, .int v3, .int v4, .int v5, .int v6, .int (0 : Int32), .int (0 : Int32)] yV_X11_inTime g_1558 (c_X11_inTime h) dX11_partsOf_12 rfl rfl (Nat.le_of_ble_eq_true rfl) ⟨by decide, by decide⟩ ⟨by decide, by decide⟩ ⟨rfl, rfl⟩ (fun x3 S1 h g2 => ?_)
  have h := h g2
  have o_v0 := gr_ob g2 o_v0
  refine r_i2l (pc := 15) C dX11_partsOf_15 ?_
  refine r_aload_n (pc := 16) C dX11_partsOf_16 0 rfl ?_
  obtain ⟨a4, ea4, h⟩ := h
  refine r_getr (pc := 17) C fL_X11_338 dX11_partsOf_17 o_v0 ea4 ?_
  obtain ⟨o_a4, h⟩ := h
  obtain ⟨a5, ea5, h⟩ := h
  refine r_getNr (pc := 20) C fN_X11_279 dX11_partsOf_20 o_a4 ea5 ?_
  refine r_iload_n (pc := 23) C dX11_partsOf_23 2 rfl ?_
  obtain ⟨o_a5, h⟩ := h
  obtain ⟨i6, h⟩ := h
  refine r_iald (pc := 24) C dX11_partsOf_24 o_a5 i6 ?_
  refine r_topi (fun x7 ex7 => ?_)
  have h := h x7 ex7
  refine r_aload_n (pc := 25) C dX11_partsOf_25 0 rfl ?_
  obtain ⟨a8, ea8, h⟩ := h
  refine r_getr (pc := 26) C fL_X11_338 dX11_partsOf_26 o_v0 ea8 ?_
  obtain ⟨o_a8, h⟩ := h
  obtain ⟨a9, ea9, h⟩ := h
  refine r_getNr (pc := 29) C fN_X11_282 dX11_partsOf_29 o_a8 ea9 ?_
  refine r_iload_n (pc := 32) C dX11_partsOf_32 2 rfl ?_
  obtain ⟨o_a9, h⟩ := h
  obtain ⟨i10, h⟩ := h
  refine r_iald (pc := 33) C dX11_partsOf_33 o_a9 i10 ?_
  refine r_topi (fun x11 ex11 => ?_)
  have h := h x11 ex11
  refine r_isub (pc := 34) C dX11_partsOf_34 ?_
  refine r_i2l (pc := 35) C dX11_partsOf_35 ?_
  refine r_lmul (pc := 36) C dX11_partsOf_36 ?_
  refine r_sipush (pc := 37) C (v := (2520 : Int32)) dX11_partsOf_37 (by decide) ?_
  refine r_iload (pc := 40) C dX11_partsOf_40 5 rfl ?_
  obtain ⟨q12, h⟩ := h
  refine r_idiv (pc := 42) C dX11_partsOf_42 q12 ?_
  refine r_topi (fun x13 ex13 => ?_)
  have h := h x13 ex13
  refine r_i2l (pc := 43) C dX11_partsOf_43 ?_
  refine r_lmul (pc := 44) C dX11_partsOf_44 ?_
  exact r_lret (pc := 45) C E ht dX11_partsOf_45 (by decide) (by decide) h
def P_X11_partsOf (v0 : Nat) (v1 : Int32) (v2 : Int32) (v3 : Int32) (v4 : Int32) (v5 : Int32) (v6 : Int32) (Q : Int64 → HS → Prop) (S : HS) : Prop := P_X11_partsOf_0 Q v0 v1 v2 v3 v4 v5 v6 S
theorem c_X11_partsOf {l : Launch} {Ee : EE} {S : HS} {v0 : Nat} {v1 : Int32} {v2 : Int32} {v3 : Int32} {v4 : Int32} {v5 : Int32} {v6 : Int32} {Q : Int64 → HS → Prop} (h : P_X11_partsOf v0 v1 v2 v3 v4 v5 v6 Q S) : MJ l yX11_partsOf cX11_partsOf 7 (some .long) rm_X11_partsOf Ee S [.ref v0, .int v1, .int v2, .int v3, .int v4, .int v5, .int v6] Q :=
  openJ (by decide) (Nat.le_of_ble_eq_true rfl) (fun X C E ht hn hE hl => by subst hE; exact r_sub [0, 1, 2, 3, 4, 5, 6] rfl (T_X11_partsOf_0 C E ht hn h))
def rm_X11_wetOf : Room := { frames := 5, cells := 0, slots := 0, locals := 135 }
def B_X11_wetOf_6 (Q : Int64 → HS → Prop) (X6 : Nat → Int32 → Int32 → Int32 → Int32 → Int32 → Int64 → Int32 → HS → Prop) (v0 : Nat) (v1 : Int32) (v2 : Int32) (v3 : Int32) (v4 : Int32) (v5 : Int32) (v6 : Int64) (v8 : Int32) (S : HS) : Prop := (((5 : Int32) ≤ v8) → (Q v6 S)) ∧ ((¬ (5 : Int32) ≤ v8) → (ob S v0 11 ∧ (P_X11_partsOf v0 v1 v2 v3 v4 v5 v8 (fun x4 S2 => Gr S S2 → (∀ x5 : Int64, x5 = v6 + x4 → (∀ x6 : Int32, x6 = v8 + (1 : Int32) → (X6 v0 v1 v2 v3 v4 v5 x5 x6 S2)))) S)))
def P_X11_wetOf_6 (Q : Int64 → HS → Prop) (v0 : Nat) (v1 : Int32) (v2 : Int32) (v3 : Int32) (v4 : Int32) (v5 : Int32) (v6 : Int64) (v8 : Int32) (S : HS) : Prop := ∀ X6 : Nat → Int32 → Int32 → Int32 → Int32 → Int32 → Int64 → Int32 → HS → Prop, (∀ (v0 : Nat) (v1 : Int32) (v2 : Int32) (v3 : Int32) (v4 : Int32) (v5 : Int32) (v6 : Int64) (v8 : Int32) (S : HS), B_X11_wetOf_6 Q X6 v0 v1 v2 v3 v4 v5 v6 v8 S → X6 v0 v1 v2 v3 v4 v5 v6 v8 S) → X6 v0 v1 v2 v3 v4 v5 v6 v8 S
set_option maxRecDepth 20000 in
set_option maxHeartbeats 4000000 in
theorem TB_X11_wetOf_6 {X : CX} {Q : Int64 → HS → Prop} (C : Cx X cX11_wetOf RX11 9 rm_X11_wetOf) (E : ReJ X rm_X11_wetOf Q) (ht : (xh X).sig.returnType = (some .long)) (hn : (xh X).name = yX11_wetOf.name) {X6 : Nat → Int32 → Int32 → Int32 → Int32 → Int32 → Int64 → Int32 → HS → Prop} (hX6 : ∀ (v0 : Nat) (v1 : Int32) (v2 : Int32) (v3 : Int32) (v4 : Int32) (v5 : Int32) (v6 : Int64) (v8 : Int32) (S : HS), X6 v0 v1 v2 v3 v4 v5 v6 v8 S → WS X 9 0 0 6 [(0, .ref v0), (1, .int v1), (2, .int v2), (3, .int v3), (4, .int v4), (5, .int v5), (6, .long v6), (8, .int v8)] [] S) {v0 : Nat} {v1 : Int32} {v2 : Int32} {v3 : Int32} {v4 : Int32} {v5 : Int32} {v6 : Int64} {v8 : Int32} {S : HS} (h : B_X11_wetOf_6 Q X6 v0 v1 v2 v3 v4 v5 v6 v8 S) : WS X 9 0 0 6 [(0, .ref v0), (1, .int v1), (2, .int v2), (3, .int v3), (4, .int v4), (5, .int v5), (6, .long v6), (8, .int v8)] [] S := by
  refine r_iload (pc := 6) C dX11_wetOf_6 7 rfl ?_
  refine r_iconst (pc := 8) C (v := (5 : Int32)) dX11_wetOf_8 (by decide) ?_
  refine r_icmp_ge (pc := 9) C (tgt := 36) dX11_wetOf_9 (by decide) (fun c1 => ?_) (fun c1 => ?_)
  · have h := h.1 c1
    refine r_lload (pc := 36) C dX11_wetOf_36 6 rfl ?_
    exact r_lret (pc := 38) C E ht dX11_wetOf_38 (by decide) (by decide) h
  · have h := h.2 c1
    refine r_lload (pc := 12) C dX11_wetOf_12 6 rfl ?_
    refine r_aload_n (pc := 14) C dX11_wetOf_14 0 rfl ?_
    refine r_iload_n (pc := 15) C dX11_wetOf_15 1 rfl ?_
    refine r_iload_n (pc := 16) C dX11_wetOf_16 2 rfl ?_
    refine r_iload_n (pc := 17) C dX11_wetOf_17 3 rfl ?_
    refine r_iload (pc := 18) C dX11_wetOf_18 4 rfl ?_
    refine r_iload (pc := 20) C dX11_wetOf_20 5 rfl ?_
    refine r_iload (pc := 22) C dX11_wetOf_22 7 rfl ?_
    obtain ⟨o_v0, h⟩ := h
    refine r_callVl0 (pc := 24) C (rest := [.long v6]) (a := v0) o_v0 [.int v1, .int v2, .int v3, .int v4, .int v5, .int v8] yV_X11_partsOf g_1554 (c_X11_partsOf h) dX11_wetOf_24 rfl rfl (Nat.le_of_ble_eq_true rfl) ⟨by decide, by decide⟩ ⟨by decide, by decide⟩ ⟨rfl, rfl⟩ (fun x4 S2 h g3 => ?_)
    have h := h g3
    have o_v0 := gr_ob g3 o_v0
    refine r_ladd (pc := 27) C dX11_wetOf_27 ?_
    refine r_topl (fun x5 ex5 => ?_)
    have h := h x5 ex5
    refine r_lstore (pc := 28) C dX11_wetOf_28 (by decide) (lv' := [(6, .long x5), (0, .ref v0), (1, .int v1), (2, .int v2), (3, .int v3), (4, .int v4), (5, .int v5), (8, .int v8)]) rfl ?_
    obtain ⟨x6, ex6⟩ : ∃ z : Int32, z = v8 + (1 : Int32) := ⟨_, rfl⟩
    have h := h x6 ex6
    refine r_iinc (pc := 30) C (v := x6) (lv' := [(8, .int x6), (6, .long x5), (0, .ref v0), (1, .int v1), (2, .int v2), (3, .int v3), (4, .int v4), (5, .int v5)]) dX11_wetOf_30 7 rfl ex6.symm (by decide) rfl ?_
    refine r_goto (pc := 33) C (tgt := 6) dX11_wetOf_33 (by decide) ?_
    exact r_sub [2, 3, 4, 5, 6, 7, 1, 0] rfl (hX6 v0 v1 v2 v3 v4 v5 x5 x6 S2 h)
theorem T_X11_wetOf_6 {X : CX} {Q : Int64 → HS → Prop} (C : Cx X cX11_wetOf RX11 9 rm_X11_wetOf) (E : ReJ X rm_X11_wetOf Q) (ht : (xh X).sig.returnType = (some .long)) (hn : (xh X).name = yX11_wetOf.name) {v0 : Nat} {v1 : Int32} {v2 : Int32} {v3 : Int32} {v4 : Int32} {v5 : Int32} {v6 : Int64} {v8 : Int32} {S : HS} (h : P_X11_wetOf_6 Q v0 v1 v2 v3 v4 v5 v6 v8 S) : WS X 9 0 0 6 [(0, .ref v0), (1, .int v1), (2, .int v2), (3, .int v3), (4, .int v4), (5, .int v5), (6, .long v6), (8, .int v8)] [] S :=
  h (fun v0 v1 v2 v3 v4 v5 v6 v8 S => WS X 9 0 0 6 [(0, .ref v0), (1, .int v1), (2, .int v2), (3, .int v3), (4, .int v4), (5, .int v5), (6, .long v6), (8, .int v8)] [] S) (fun v0 v1 v2 v3 v4 v5 v6 v8 S hh => TB_X11_wetOf_6 C E ht hn (fun v0 v1 v2 v3 v4 v5 v6 v8 S z => z) hh)
def P_X11_wetOf_0 (Q : Int64 → HS → Prop) (v0 : Nat) (v1 : Int32) (v2 : Int32) (v3 : Int32) (v4 : Int32) (v5 : Int32) (S : HS) : Prop := P_X11_wetOf_6 Q v0 v1 v2 v3 v4 v5 (0 : Int64) (0 : Int32) S
set_option maxRecDepth 20000 in
set_option maxHeartbeats 4000000 in
theorem T_X11_wetOf_0 {X : CX} {Q : Int64 → HS → Prop} (C : Cx X cX11_wetOf RX11 9 rm_X11_wetOf) (E : ReJ X rm_X11_wetOf Q) (ht : (xh X).sig.returnType = (some .long)) (hn : (xh X).name = yX11_wetOf.name) {v0 : Nat} {v1 : Int32} {v2 : Int32} {v3 : Int32} {v4 : Int32} {v5 : Int32} {S : HS} (h : P_X11_wetOf_0 Q v0 v1 v2 v3 v4 v5 S) : WS X 9 0 0 0 [(0, .ref v0), (1, .int v1), (2, .int v2), (3, .int v3), (4, .int v4), (5, .int v5)] [] S := by
  refine r_lconst (pc := 0) C (v := (0 : Int64)) dX11_wetOf_0 (by decide) ?_
  refine r_lstore (pc := 1) C dX11_wetOf_1 (by decide) (lv' := [(6, .long (0 : Int64)), (0, .ref v0), (1, .int v1), (2, .int v2), (3, .int v3), (4, .int v4), (5, .int v5)]) rfl ?_
  refine r_iconst (pc := 3) C (v := (0 : Int32)) dX11_wetOf_3 (by decide) ?_
  refine r_istore (pc := 4) C dX11_wetOf_4 (by decide) (lv' := [(8, .int (0 : Int32)), (6, .long (0 : Int64)), (0, .ref v0), (1, .int v1), (2, .int v2), (3, .int v3), (4, .int v4), (5, .int v5)]) rfl ?_
  exact r_sub [2, 3, 4, 5, 6, 7, 1, 0] rfl (T_X11_wetOf_6 C E ht hn h)
def P_X11_wetOf (v0 : Nat) (v1 : Int32) (v2 : Int32) (v3 : Int32) (v4 : Int32) (v5 : Int32) (Q : Int64 → HS → Prop) (S : HS) : Prop := P_X11_wetOf_0 Q v0 v1 v2 v3 v4 v5 S
theorem c_X11_wetOf {l : Launch} {Ee : EE} {S : HS} {v0 : Nat} {v1 : Int32} {v2 : Int32} {v3 : Int32} {v4 : Int32} {v5 : Int32} {Q : Int64 → HS → Prop} (h : P_X11_wetOf v0 v1 v2 v3 v4 v5 Q S) : MJ l yX11_wetOf cX11_wetOf 9 (some .long) rm_X11_wetOf Ee S [.ref v0, .int v1, .int v2, .int v3, .int v4, .int v5] Q :=
  openJ (by decide) (Nat.le_of_ble_eq_true rfl) (fun X C E ht hn hE hl => by subst hE; exact r_sub [0, 1, 2, 3, 4, 5] rfl (T_X11_wetOf_0 C E ht hn h))
def rm_X11_bestOf : Room := { frames := 6, cells := 0, slots := 0, locals := 163 }
def P_X11_bestOf_61 (Q : Int32 → HS → Prop) (X17 : Nat → Int32 → Int32 → Int32 → Int32 → Int32 → Int32 → HS → Prop) (v0 : Nat) (v1 : Int32) (v2 : Int32) (v3 : Int32) (v4 : Int32) (v5 : Int32) (v6 : Int32) (S : HS) : Prop := ∀ x1 : Int32, x1 = v6 + (1 : Int32) → (X17 v0 v1 v2 v3 v4 v5 x1 S)
set_option maxRecDepth 20000 in
set_option maxHeartbeats 4000000 in
theorem T_X11_bestOf_61 {X : CX} {Q : Int32 → HS → Prop} (C : Cx X cX11_bestOf RX11 7 rm_X11_bestOf) (E : ReI X rm_X11_bestOf Q) (ht : (xh X).sig.returnType = (some .int)) (hn : (xh X).name = yX11_bestOf.name) {X17 : Nat → Int32 → Int32 → Int32 → Int32 → Int32 → Int32 → HS → Prop} (hX17 : ∀ (v0 : Nat) (v1 : Int32) (v2 : Int32) (v3 : Int32) (v4 : Int32) (v5 : Int32) (v6 : Int32) (S : HS), X17 v0 v1 v2 v3 v4 v5 v6 S → WS X 7 0 0 17 [(0, .ref v0), (1, .int v1), (2, .int v2), (3, .int v3), (4, .int v4), (5, .int v5), (6, .int v6)] [] S) {v0 : Nat} {v1 : Int32} {v2 : Int32} {v3 : Int32} {v4 : Int32} {v5 : Int32} {v6 : Int32} {S : HS} (h : P_X11_bestOf_61 Q X17 v0 v1 v2 v3 v4 v5 v6 S) : WS X 7 0 0 61 [(0, .ref v0), (1, .int v1), (2, .int v2), (3, .int v3), (4, .int v4), (5, .int v5), (6, .int v6)] [] S := by
  obtain ⟨x1, ex1⟩ : ∃ z : Int32, z = v6 + (1 : Int32) := ⟨_, rfl⟩
  have h := h x1 ex1
  refine r_iinc (pc := 61) C (v := x1) (lv' := [(6, .int x1), (0, .ref v0), (1, .int v1), (2, .int v2), (3, .int v3), (4, .int v4), (5, .int v5)]) dX11_bestOf_61 6 rfl ex1.symm (by decide) rfl ?_
  refine r_goto (pc := 64) C (tgt := 17) dX11_bestOf_64 (by decide) ?_
  exact r_sub [1, 2, 3, 4, 5, 6, 0] rfl (hX17 v0 v1 v2 v3 v4 v5 x1 S h)
def B_X11_bestOf_17 (Q : Int32 → HS → Prop) (X17 : Nat → Int32 → Int32 → Int32 → Int32 → Int32 → Int32 → HS → Prop) (v0 : Nat) (v1 : Int32) (v2 : Int32) (v3 : Int32) (v4 : Int32) (v5 : Int32) (v6 : Int32) (S : HS) : Prop := ob S v0 11 ∧ (∃ a1 : Nat, fR S v0 3 = some a1 ∧ (ob S a1 10 ∧ (∃ a2 : Nat, fR S a1 25 = some a2 ∧ (ob S a2 13 ∧ (vp_in v1 (hN S a2) ∧ ∀ x4 : Int32, x4 = fI S a2 v1.toNatClampNeg → (((x4 < v6) → (Q v5 S)) ∧ ((¬ x4 < v6) → (P_X11_wetOf v0 v1 v2 v3 v4 v6 (fun x8 S6 => Gr S S6 → (P_X11_wetOf v0 v1 v2 v3 v4 v5 (fun x11 S9 => Gr S6 S9 → (((0 ≤ (lg_cmp x8 x11)) → (P_X11_bestOf_61 Q X17 v0 v1 v2 v3 v4 v5 v6 S9)) ∧ ((¬ 0 ≤ (lg_cmp x8 x11)) → (P_X11_bestOf_61 Q X17 v0 v1 v2 v3 v4 v6 v6 S9)))) S6)) S))))))))
def P_X11_bestOf_17 (Q : Int32 → HS → Prop) (v0 : Nat) (v1 : Int32) (v2 : Int32) (v3 : Int32) (v4 : Int32) (v5 : Int32) (v6 : Int32) (S : HS) : Prop := ∀ X17 : Nat → Int32 → Int32 → Int32 → Int32 → Int32 → Int32 → HS → Prop, (∀ (v0 : Nat) (v1 : Int32) (v2 : Int32) (v3 : Int32) (v4 : Int32) (v5 : Int32) (v6 : Int32) (S : HS), B_X11_bestOf_17 Q X17 v0 v1 v2 v3 v4 v5 v6 S → X17 v0 v1 v2 v3 v4 v5 v6 S) → X17 v0 v1 v2 v3 v4 v5 v6 S
set_option maxRecDepth 20000 in
set_option maxHeartbeats 4000000 in
theorem TB_X11_bestOf_17 {X : CX} {Q : Int32 → HS → Prop} (C : Cx X cX11_bestOf RX11 7 rm_X11_bestOf) (E : ReI X rm_X11_bestOf Q) (ht : (xh X).sig.returnType = (some .int)) (hn : (xh X).name = yX11_bestOf.name) {X17 : Nat → Int32 → Int32 → Int32 → Int32 → Int32 → Int32 → HS → Prop} (hX17 : ∀ (v0 : Nat) (v1 : Int32) (v2 : Int32) (v3 : Int32) (v4 : Int32) (v5 : Int32) (v6 : Int32) (S : HS), X17 v0 v1 v2 v3 v4 v5 v6 S → WS X 7 0 0 17 [(0, .ref v0), (1, .int v1), (2, .int v2), (3, .int v3), (4, .int v4), (5, .int v5), (6, .int v6)] [] S) {v0 : Nat} {v1 : Int32} {v2 : Int32} {v3 : Int32} {v4 : Int32} {v5 : Int32} {v6 : Int32} {S : HS} (h : B_X11_bestOf_17 Q X17 v0 v1 v2 v3 v4 v5 v6 S) : WS X 7 0 0 17 [(0, .ref v0), (1, .int v1), (2, .int v2), (3, .int v3), (4, .int v4), (5, .int v5), (6, .int v6)] [] S := by
  refine r_iload (pc := 17) C dX11_bestOf_17 6 rfl ?_
  refine r_aload_n (pc := 19) C dX11_bestOf_19 0 rfl ?_
  obtain ⟨o_v0, h⟩ := h
  obtain ⟨a1, ea1, h⟩ := h
  refine r_getr (pc := 20) C fL_X11_338 dX11_bestOf_20 o_v0 ea1 ?_
  obtain ⟨o_a1, h⟩ := h
  obtain ⟨a2, ea2, h⟩ := h
  refine r_getNr (pc := 23) C fN_X11_320 dX11_bestOf_23 o_a1 ea2 ?_
  refine r_iload_n (pc := 26) C dX11_bestOf_26 1 rfl ?_
  obtain ⟨o_a2, h⟩ := h
  obtain ⟨i3, h⟩ := h
  refine r_iald (pc := 27) C dX11_bestOf_27 o_a2 i3 ?_
  refine r_topi (fun x4 ex4 => ?_)
  have h := h x4 ex4
  refine r_icmp_gt (pc := 28) C (tgt := 67) dX11_bestOf_28 (by decide) (fun c5 => ?_) (fun c5 => ?_)
  · have h := h.1 c5
    refine r_iload (pc := 67) C dX11_bestOf_67 5 rfl ?_
    exact r_iret (pc := 69) C E ht dX11_bestOf_69 (by decide) (by decide) h
  · have h := h.2 c5
    refine r_aload_n (pc := 31) C dX11_bestOf_31 0 rfl ?_
    refine r_iload_n (pc := 32) C dX11_bestOf_32 1 rfl ?_
    refine r_iload_n (pc := 33) C dX11_bestOf_33 2 rfl ?_
    refine r_iload_n (pc := 34) C dX11_bestOf_34 3 rfl ?_
    refine r_iload (pc := 35) C dX11_bestOf_35 4 rfl ?_
    refine r_iload (pc := 37) C dX11_bestOf_37 6 rfl ?_
    refine r_callVl0 (pc := 39) C (rest := []) (a := v0) o_v0 [.int v1, .int v2, .int v3, .int v4, .int v6] yV_X11_wetOf g_1594 (c_X11_wetOf h) dX11_bestOf_39 rfl rfl (Nat.le_of_ble_eq_true rfl) ⟨by decide, by decide⟩ ⟨by decide, by decide⟩ ⟨rfl, rfl⟩ (fun x8 S6 h g7 => ?_)
    have h := h g7
    have o_a1 := gr_ob g7 o_a1
    have o_a2 := gr_ob g7 o_a2
    have o_v0 := gr_ob g7 o_v0
    refine r_aload_n (pc := 42) C dX11_bestOf_42 0 rfl ?_
    refine r_iload_n (pc := 43) C dX11_bestOf_43 1 rfl ?_
    refine r_iload_n (pc := 44) C dX11_bestOf_44 2 rfl ?_
    refine r_iload_n (pc := 45) C dX11_bestOf_45 3 rfl ?_
    refine r_iload (pc := 46) C dX11_bestOf_46 4 rfl ?_
    refine r_iload (pc := 48) C dX11_bestOf_48 5 rfl ?_
    refine r_callVl0 (pc := 50) C (rest := [.long x8]) (a := v0) o_v0 [.int v1, .int v2, .int v3, .int v4, .int v5] yV_X11_wetOf g_1594 (c_X11_wetOf h) dX11_bestOf_50 rfl rfl (Nat.le_of_ble_eq_true rfl) ⟨by decide, by decide⟩ ⟨by decide, by decide⟩ ⟨rfl, rfl⟩ (fun x11 S9 h g10 => ?_)
    have h := h g10
    have o_a1 := gr_ob g10 o_a1
    have o_a2 := gr_ob g10 o_a2
    have o_v0 := gr_ob g10 o_v0
    refine r_lcmp (pc := 53) C dX11_bestOf_53 ?_
    refine r_if_ge (pc := 54) C (tgt := 61) dX11_bestOf_54 (by decide) (fun c12 => ?_) (fun c12 => ?_)
    · have h := h.1 c12
      exact r_sub [0, 1, 2, 3, 4, 5, 6] rfl (T_X11_bestOf_61 C E ht hn hX17 h)
    · have h := h.2 c12
      refine r_iload (pc := 57) C dX11_bestOf_57 6 rfl ?_
      refine r_istore (pc := 59) C dX11_bestOf_59 (by decide) (lv' := [(5, .int v6), (0, .ref v0), (1, .int v1), (2, .int v2), (3, .int v3), (4, .int v4), (6, .int v6)]) rfl ?_
      exact r_sub [1, 2, 3, 4, 5, 0, 6] rfl (T_X11_bestOf_61 C E ht hn hX17 h)
theorem T_X11_bestOf_17 {X : CX} {Q : Int32 → HS → Prop} (C : Cx X cX11_bestOf RX11 7 rm_X11_bestOf) (E : ReI X rm_X11_bestOf Q) (ht : (xh X).sig.returnType = (some .int)) (hn : (xh X).name = yX11_bestOf.name) {v0 : Nat} {v1 : Int32} {v2 : Int32} {v3 : Int32} {v4 : Int32} {v5 : Int32} {v6 : Int32} {S : HS} (h : P_X11_bestOf_17 Q v0 v1 v2 v3 v4 v5 v6 S) : WS X 7 0 0 17 [(0, .ref v0), (1, .int v1), (2, .int v2), (3, .int v3), (4, .int v4), (5, .int v5), (6, .int v6)] [] S :=
  h (fun v0 v1 v2 v3 v4 v5 v6 S => WS X 7 0 0 17 [(0, .ref v0), (1, .int v1), (2, .int v2), (3, .int v3), (4, .int v4), (5, .int v5), (6, .int v6)] [] S) (fun v0 v1 v2 v3 v4 v5 v6 S hh => TB_X11_bestOf_17 C E ht hn (fun v0 v1 v2 v3 v4 v5 v6 S z => z) hh)
def P_X11_bestOf_0 (Q : Int32 → HS → Prop) (v0 : Nat) (v1 : Int32) (v2 : Int32) (v3 : Int32) (v4 : Int32) (S : HS) : Prop := ob S v0 11 ∧ (∃ a1 : Nat, fR S v0 3 = some a1 ∧ (ob S a1 10 ∧ (∃ a2 : Nat, fR S a1 24 = some a2 ∧ (ob S a2 13 ∧ (vp_in v1 (hN S a2) ∧ ∀ x4 : Int32, x4 = fI S a2 v1.toNatClampNeg → (∀ x5 : Int32, x5 = x4 + (1 : Int32) → (P_X11_bestOf_17 Q v0 v1 v2 v3 v4 x4 x5 S)))))))
set_option maxRecDepth 20000 in
set_option maxHeartbeats 4000000 in
theorem T_X11_bestOf_0 {X : CX} {Q : Int32 → HS → Prop} (C : Cx X cX11_bestOf RX11 7 rm_X11_bestOf) (E : ReI X rm_X11_bestOf Q) (ht : (xh X).sig.returnType = (some .int)) (hn : (xh X).name = yX11_bestOf.name) {v0 : Nat} {v1 : Int32} {v2 : Int32} {v3 : Int32} {v4 : Int32} {S : HS} (h : P_X11_bestOf_0 Q v0 v1 v2 v3 v4 S) : WS X 7 0 0 0 [(0, .ref v0), (1, .int v1), (2, .int v2), (3, .int v3), (4, .int v4)] [] S := by
  refine r_aload_n (pc := 0) C dX11_bestOf_0 0 rfl ?_
  obtain ⟨o_v0, h⟩ := h
  obtain ⟨a1, ea1, h⟩ := h
  refine r_getr (pc := 1) C fL_X11_338 dX11_bestOf_1 o_v0 ea1 ?_
  obtain ⟨o_a1, h⟩ := h
  obtain ⟨a2, ea2, h⟩ := h
  refine r_getNr (pc := 4) C fN_X11_317 dX11_bestOf_4 o_a1 ea2 ?_
  refine r_iload_n (pc := 7) C dX11_bestOf_7 1 rfl ?_
  obtain ⟨o_a2, h⟩ := h
  obtain ⟨i3, h⟩ := h
  refine r_iald (pc := 8) C dX11_bestOf_8 o_a2 i3 ?_
  refine r_topi (fun x4 ex4 => ?_)
  have h := h x4 ex4
  refine r_istore (pc := 9) C dX11_bestOf_9 (by decide) (lv' := [(5, .int x4), (0, .ref v0), (1, .int v1), (2, .int v2), (3, .int v3), (4, .int v4)]) rfl ?_
  refine r_iload (pc := 11) C dX11_bestOf_11 0 rfl ?_
  refine r_iconst (pc := 13) C (v := (1 : Int32)) dX11_bestOf_13 (by decide) ?_
  refine r_iadd (pc := 14) C dX11_bestOf_14 ?_
  refine r_topi (fun x5 ex5 => ?_)
  have h := h x5 ex5
  refine r_istore (pc := 15) C dX11_bestOf_15 (by decide) (lv' := [(6, .int x5), (5, .int x4), (0, .ref v0), (1, .int v1), (2, .int v2), (3, .int v3), (4, .int v4)]) rfl ?_
  exact r_sub [2, 3, 4, 5, 6, 1, 0] rfl (T_X11_bestOf_17 C E ht hn h)
def P_X11_bestOf (v0 : Nat) (v1 : Int32) (v2 : Int32) (v3 : Int32) (v4 : Int32) (Q : Int32 → HS → Prop) (S : HS) : Prop := P_X11_bestOf_0 Q v0 v1 v2 v3 v4 S
theorem c_X11_bestOf {l : Launch} {Ee : EE} {S : HS} {v0 : Nat} {v1 : Int32} {v2 : Int32} {v3 : Int32} {v4 : Int32} {Q : Int32 → HS → Prop} (h : P_X11_bestOf v0 v1 v2 v3 v4 Q S) : MI l yX11_bestOf cX11_bestOf 7 (some .int) rm_X11_bestOf Ee S [.ref v0, .int v1, .int v2, .int v3, .int v4] Q :=
  openI (by decide) (Nat.le_of_ble_eq_true rfl) (fun X C E ht hn hE hl => by subst hE; exact r_sub [0, 1, 2, 3, 4] rfl (T_X11_bestOf_0 C E ht hn h))
def rm_X11_isWalker : Room := { frames := 0, cells := 0, slots := 0, locals := 0 }
def P_X11_isWalker_0 (Q : Int32 → HS → Prop) (v0 : Nat) (v1 : Int32) (S : HS) : Prop := ob S v0 11 ∧ ((fR S v0 3 = none → (Q (0 : Int32) S)) ∧ (∀ a1 : Nat, fR S v0 3 = some a1 → (((v1 < 0) → (Q (0 : Int32) S)) ∧ ((¬ v1 < 0) → (∃ a4 : Nat, fR S v0 3 = some a4 ∧ (ob S a4 10 ∧ (∀ x5 : Int32, x5 = fI S a4 4 → (((x5 ≤ v1) → (Q (0 : Int32) S)) ∧ ((¬ x5 ≤ v1) → (Q (1 : Int32) S))))))))))
set_option maxRecDepth 20000 in
set_option maxHeartbeats 4000000 in
theorem T_X11_isWalker_0 {X : CX} {Q : Int32 → HS → Prop} (C : Cx X cX11_isWalker RX11 2 rm_X11_isWalker) (E : ReI X rm_X11_isWalker (fun r S => bl r ∧ Q r S)) (ht : (xh X).sig.returnType = (some .boolean)) (hn : (xh X).name = yX11_isWalker.name) {v0 : Nat} {v1 : Int32} {S : HS} (h : P_X11_isWalker_0 Q v0 v1 S) : WS X 2 0 0 0 [(0, .ref v0), (1, .int v1)] [] S := by
  refine r_aload_n (pc := 0) C dX11_isWalker_0 0 rfl ?_
  obtain ⟨o_v0, h⟩ := h
  rcases e2 : fR S v0 3 with _ | a1
  · refine r_get0 (pc := 1) C fL_X11_338 dX11_isWalker_1 o_v0 e2 ?_
    refine r_ifnull0 (pc := 4) C (tgt := 26) dX11_isWalker_4 (by decide) ?_
    have h := h.1 e2
    refine r_iconst (pc := 26) C (v := (0 : Int32)) dX11_isWalker_26 (by decide) ?_
    exact r_zret (pc := 27) C E ht dX11_isWalker_27 (by decide) (by decide) (Or.inl rfl) h
  · refine r_getr (pc := 1) C fL_X11_338 dX11_isWalker_1 o_v0 e2 ?_
    refine r_ifnull (pc := 4) C dX11_isWalker_4 ?_
    have h := h.2 a1 e2
    refine r_iload_n (pc := 7) C dX11_isWalker_7 1 rfl ?_
    refine r_if_lt (pc := 8) C (tgt := 26) dX11_isWalker_8 (by decide) (fun c3 => ?_) (fun c3 => ?_)
    · have h := h.1 c3
      refine r_iconst (pc := 26) C (v := (0 : Int32)) dX11_isWalker_26 (by decide) ?_
      exact r_zret (pc := 27) C E ht dX11_isWalker_27 (by decide) (by decide) (Or.inl rfl) h
    · have h := h.2 c3
      refine r_iload_n (pc := 11) C dX11_isWalker_11 1 rfl ?_
      refine r_aload_n (pc := 12) C dX11_isWalker_12 0 rfl ?_
      obtain ⟨a4, ea4, h⟩ := h
      refine r_getr (pc := 13) C fL_X11_338 dX11_isWalker_13 o_v0 ea4 ?_
      obtain ⟨o_a4, h⟩ := h
      refine r_getNi (pc := 16) C fN_X11_193 dX11_isWalker_16 o_a4 ?_
      refine r_topi (fun x5 ex5 => ?_)
      have h := h x5 ex5
      refine r_icmp_ge (pc := 19) C (tgt := 26) dX11_isWalker_19 (by decide) (fun c6 => ?_) (fun c6 => ?_)
      · have h := h.1 c6
        refine r_iconst (pc := 26) C (v := (0 : Int32)) dX11_isWalker_26 (by decide) ?_
        exact r_zret (pc := 27) C E ht dX11_isWalker_27 (by decide) (by decide) (Or.inl rfl) h
      · have h := h.2 c6
        refine r_iconst (pc := 22) C (v := (1 : Int32)) dX11_isWalker_22 (by decide) ?_
        refine r_goto (pc := 23) C (tgt := 27) dX11_isWalker_23 (by decide) ?_
        exact r_zret (pc := 27) C E ht dX11_isWalker_27 (by decide) (by decide) (Or.inr rfl) h
def P_X11_isWalker (v0 : Nat) (v1 : Int32) (Q : Int32 → HS → Prop) (S : HS) : Prop := P_X11_isWalker_0 Q v0 v1 S
theorem c_X11_isWalker {l : Launch} {Ee : EE} {S : HS} {v0 : Nat} {v1 : Int32} {Q : Int32 → HS → Prop} (h : P_X11_isWalker v0 v1 Q S) : MI l yX11_isWalker cX11_isWalker 2 (some .boolean) rm_X11_isWalker Ee S [.ref v0, .int v1] (fun r S => bl r ∧ Q r S) :=
  openI (by decide) (Nat.le_of_ble_eq_true rfl) (fun X C E ht hn hE hl => by subst hE; exact r_sub [0, 1] rfl (T_X11_isWalker_0 C E ht hn h))
def rm_X11_best : Room := { frames := 7, cells := 0, slots := 0, locals := 189 }
def P_X11_best_39 (Q : Int32 → HS → Prop) (v0 : Nat) (S : HS) : Prop := ob S v0 11 ∧ (P_X11_refused v0 (1 : Int32) (fun x3 S1 => Gr S S1 → (Q x3 S1)) S)
set_option maxRecDepth 20000 in
set_option maxHeartbeats 4000000 in
theorem T_X11_best_39 {X : CX} {Q : Int32 → HS → Prop} (C : Cx X cX11_best RX11 5 rm_X11_best) (E : ReI X rm_X11_best Q) (ht : (xh X).sig.returnType = (some .int)) (hn : (xh X).name = yX11_best.name) {v0 : Nat} {S : HS} (h : P_X11_best_39 Q v0 S) : WS X 5 0 0 39 [(0, .ref v0)] [] S := by
  refine r_aload_n (pc := 39) C dX11_best_39 0 rfl ?_
  refine r_iconst (pc := 40) C (v := (1 : Int32)) dX11_best_40 (by decide) ?_
  obtain ⟨o_v0, h⟩ := h
  refine r_callVi0 (pc := 41) C (rest := []) (a := v0) o_v0 [.int (1 : Int32)] yV_X11_refused g_1250 (c_X11_refused h) dX11_best_41 rfl rfl (Nat.le_of_ble_eq_true rfl) ⟨by decide, by decide⟩ ⟨by decide, by decide⟩ ⟨rfl, rfl⟩ (fun x3 S1 h g2 => ?_)
  have h := h g2
  have o_v0 := gr_ob g2 o_v0
  exact r_iret (pc := 44) C E ht dX11_best_44 (by decide) (by decide) h
def P_X11_best_0 (Q : Int32 → HS → Prop) (v0 : Nat) (v1 : Int32) (v2 : Int32) (v3 : Int32) (v4 : Int32) (S : HS) : Prop := ob S v0 11 ∧ (∀ S1 : HS, S1 = sI S v0 0 (0 : Int32) → (P_X11_isWalker v0 v1 (fun x4 S2 => Gr S1 S2 → bl x4 → (((x4 = 0) → (P_X11_best_39 Q v0 S2)) ∧ ((¬ x4 = 0) → (P_X11_isRoad v0 v2 (fun x8 S6 => Gr S2 S6 → bl x8 → (((x8 = 0) → (P_X11_best_39 Q v0 S6)) ∧ ((¬ x8 = 0) → (P_X11_in v3 (0 : Int32) (1 : Int32) (fun x12 S10 => Gr S6 S10 → bl x12 → (((x12 = 0) → (P_X11_best_39 Q v0 S10)) ∧ ((¬ x12 = 0) → (P_X11_isHour v0 v4 (fun x16 S14 => Gr S10 S14 → bl x16 → (((¬ x16 = 0) → (P_X11_bestOf v0 v1 v2 v3 v4 (fun x20 S18 => Gr S14 S18 → (P_X11_good v0 x20 (fun x23 S21 => Gr S18 S21 → (Q x23 S21)) S18)) S14)) ∧ ((x16 = 0) → (P_X11_best_39 Q v0 S14)))) S10)))) S6)))) S2)))) S1))
set_option maxRecDepth 20000 in
set_option maxHeartbeats 4000000 in
theorem T_X11_best_0 {X : CX} {Q : Int32 → HS → Prop} (C : Cx X cX11_best RX11 5 rm_X11_best) (E : ReI X rm_X11_best Q) (ht : (xh X).sig.returnType = (some .int)) (hn : (xh X).name = yX11_best.name) {v0 : Nat} {v1 : Int32} {v2 : Int32} {v3 : Int32} {v4 : Int32} {S : HS} (h : P_X11_best_0 Q v0 v1 v2 v3 v4 S) : WS X 5 0 0 0 [(0, .ref v0), (1, .int v1), (2, .int v2), (3, .int v3), (4, .int v4)] [] S := by
  refine r_aload_n (pc := 0) C dX11_best_0 0 rfl ?_
  refine r_iconst (pc := 1) C (v := (0 : Int32)) dX11_best_1 (by decide) ?_
  obtain ⟨o_v0, h⟩ := h
  refine r_puti (pc := 2) C pfL_X11_40 dX11_best_2 o_v0 ?_
  refine r_heap (fun S1 eS1 => ?_)
  have h := h S1 eS1
  have o_v0 := ob_I eS1 o_v0
  refine r_aload_n (pc := 5) C dX11_best_5 0 rfl ?_
  refine r_iload_n (pc := 6) C dX11_best_6 1 rfl ?_
  refine r_callVi0 (pc := 7) C (rest := []) (a := v0) o_v0 [.int v1] yV_X11_isWalker g_1538 (c_X11_isWalker h) dX11_best_7 rfl rfl (Nat.le_of_ble_eq_true rfl) ⟨by decide, by decide⟩ ⟨by decide, by decide⟩ ⟨rfl, rfl⟩ (fun x4 S2 h g3 => ?_)
  have bx4 := h.1
  have h := h.2 g3 bx4
  have o_v0 := gr_ob g3 o_v0
  refine r_if_eq (pc := 10) C (tgt := 39) dX11_best_10 (by decide) (fun c5 => ?_) (fun c5 => ?_)
  · have h := h.1 c5
    exact r_sub [0] rfl (T_X11_best_39 C E ht hn h)
  · have h := h.2 c5
    refine r_aload_n (pc := 13) C dX11_best_13 0 rfl ?_
    refine r_iload_n (pc := 14) C dX11_best_14 2 rfl ?_
    refine r_callVi0 (pc := 15) C (rest := []) (a := v0) o_v0 [.int v2] yV_X11_isRoad g_1542 (c_X11_isRoad h) dX11_best_15 rfl rfl (Nat.le_of_ble_eq_true rfl) ⟨by decide, by decide⟩ ⟨by decide, by decide⟩ ⟨rfl, rfl⟩ (fun x8 S6 h g7 => ?_)
    have bx8 := h.1
    have h := h.2 g7 bx8
    have o_v0 := gr_ob g7 o_v0
    refine r_if_eq (pc := 18) C (tgt := 39) dX11_best_18 (by decide) (fun c9 => ?_) (fun c9 => ?_)
    · have h := h.1 c9
      exact r_sub [0] rfl (T_X11_best_39 C E ht hn h)
    · have h := h.2 c9
      refine r_iload_n (pc := 21) C dX11_best_21 3 rfl ?_
      refine r_iconst (pc := 22) C (v := (0 : Int32)) dX11_best_22 (by decide) ?_
      refine r_iconst (pc := 23) C (v := (1 : Int32)) dX11_best_23 (by decide) ?_
      refine r_callSi0 (pc := 24) C (rest := []) rfl [.int v3, .int (0 : Int32), .int (1 : Int32)] yS_X11_in g_1434 (c_X11_in h) dX11_best_24 rfl rfl (Nat.le_of_ble_eq_true rfl) ⟨by decide, by decide⟩ ⟨by decide, by decide⟩ ⟨rfl, rfl⟩ (fun x12 S10 h g11 => ?_)
      have bx12 := h.1
      have h := h.2 g11 bx12
      have o_v0 := gr_ob g11 o_v0
      refine r_if_eq (pc := 27) C (tgt := 39) dX11_best_27 (by decide) (fun c13 => ?_) (fun c13 => ?_)
      · have h := h.1 c13
        exact r_sub [0] rfl (T_X11_best_39 C E ht hn h)
      · have h := h.2 c13
        refine r_aload_n (pc := 30) C dX11_best_30 0 rfl ?_
        refine r_iload (pc := 31) C dX11_best_31 4 rfl ?_
        refine r_callVi0 (pc := 33) C (rest := []) (a := v0) o_v0 [.int v4] yV_X11_isHour g_1546 (c_X11_isHour h) dX11_best_33 rfl rfl (Nat.le_of_ble_eq_true rfl) ⟨by decide, by decide⟩ ⟨by decide, by decide⟩ ⟨rfl, rfl⟩ (fun x16 S14 h g15 => ?_)
        have bx16 := h.1
        have h := h.2 g15 bx16
        have o_v0 := gr_ob g15 o_v0
        refine r_if_ne (pc := 36) C (tgt := 45) dX11_best_36 (by decide) (fun c17 => ?_) (fun c17 => ?_)
        · have h := h.1 c17
          refine r_aload_n (pc := 45) C dX11_best_45 0 rfl ?_
          refine r_aload_n (pc := 46) C dX11_best_46 0 rfl ?_
          refine r_iload_n (pc := 47) C dX11_best_47 1 rfl ?_
          refine r_iload_n (pc := 48) C dX11_best_48 2 rfl ?_
          refine r_iload_n (pc := 49) C dX11_best_49 3 rfl ?_
          refine r_iload (pc := 50) C dX11_best_50 4 rfl ?_
          refine r_callVi0 (pc := 52) C (rest := [.ref v0]) (a := v0) o_v0 [.int v1, .int v2, .int v3, .int v4] yV_X11_bestOf g_1627 (c_X11_bestOf h) dX11_best_52 rfl rfl (Nat.le_of_ble_eq_true rfl) ⟨by decide, by decide⟩ ⟨by decide, by decide⟩ ⟨rfl, rfl⟩ (fun x20 S18 h g19 => ?_)
          have h := h g19
          have o_v0 := gr_ob g19 o_v0
          refine r_callVi0 (pc := 55) C (rest := []) (a := v0) o_v0 [.int x20] yV_X11_good g_1518 (c_X11_good h) dX11_best_55 rfl rfl (Nat.le_of_ble_eq_true rfl) ⟨by decide, by decide⟩ ⟨by decide, by decide⟩ ⟨rfl, rfl⟩ (fun x23 S21 h g22 => ?_)
          have h := h g22
          have o_v0 := gr_ob g22 o_v0
          exact r_iret (pc := 58) C E ht dX11_best_58 (by decide) (by decide) h
        · have h := h.2 c17
          exact r_sub [0] rfl (T_X11_best_39 C E ht hn h)
def P_X11_best (v0 : Nat) (v1 : Int32) (v2 : Int32) (v3 : Int32) (v4 : Int32) (Q : Int32 → HS → Prop) (S : HS) : Prop := P_X11_best_0 Q v0 v1 v2 v3 v4 S
theorem c_X11_best {l : Launch} {Ee : EE} {S : HS} {v0 : Nat} {v1 : Int32} {v2 : Int32} {v3 : Int32} {v4 : Int32} {Q : Int32 → HS → Prop} (h : P_X11_best v0 v1 v2 v3 v4 Q S) : MI l yX11_best cX11_best 5 (some .int) rm_X11_best Ee S [.ref v0, .int v1, .int v2, .int v3, .int v4] Q :=
  openI (by decide) (Nat.le_of_ble_eq_true rfl) (fun X C E ht hn hE hl => by subst hE; exact r_sub [0, 1, 2, 3, 4] rfl (T_X11_best_0 C E ht hn h))
def rm_X11_canWait : Room := { frames := 0, cells := 0, slots := 0, locals := 0 }
def P_X11_canWait_0 (Q : Int32 → HS → Prop) (v0 : Nat) (v1 : Int32) (S : HS) : Prop := ob S v0 11 ∧ (∃ a1 : Nat, fR S v0 3 = some a1 ∧ (ob S a1 10 ∧ (∃ a2 : Nat, fR S a1 18 = some a2 ∧ (ob S a2 15 ∧ (vp_in v1 (hN S a2) ∧ ∀ x4 : Int32, x4 = fI S a2 v1.toNatClampNeg → (((¬ x4 = 0) → (Q (1 : Int32) S)) ∧ ((x4 = 0) → (∃ a6 : Nat, fR S v0 3 = some a6 ∧ (ob S a6 10 ∧ (∃ a7 : Nat, fR S a6 12 = some a7 ∧ (ob S a7 13 ∧ (vp_in v1 (hN S a7) ∧ ∀ x9 : Int32, x9 = fI S a7 v1.toNatClampNeg → (((x9 = (-2 : Int32)) → (Q (0 : Int32) S)) ∧ ((¬ x9 = (-2 : Int32)) → (Q (1 : Int32) S)))))))))))))))
set_option maxRecDepth 20000 in
set_option maxHeartbeats 4000000 in
theorem T_X11_canWait_0 {X : CX} {Q : Int32 → HS → Prop} (C : Cx X cX11_canWait RX11 2 rm_X11_canWait) (E : ReI X rm_X11_canWait (fun r S => bl r ∧ Q r S)) (ht : (xh X).sig.returnType = (some .boolean)) (hn : (xh X).name = yX11_canWait.name) {v0 : Nat} {v1 : Int32} {S : HS} (h : P_X11_canWait_0 Q v0 v1 S) : WS X 2 0 0 0 [(0, .ref v0), (1, .int v1)] [] S := by
  refine r_aload_n (pc := 0) C dX11_canWait_0 0 rfl ?_
  obtain ⟨o_v0, h⟩ := h
  obtain ⟨a1, ea1, h⟩ := h
  refine r_getr (pc := 1) C fL_X11_338 dX11_canWait_1 o_v0 ea1 ?_
  obtain ⟨o_a1, h⟩ := h
  obtain ⟨a2, ea2, h⟩ := h
  refine r_getNr (pc := 4) C fN_X11_258 dX11_canWait_4 o_a1 ea2 ?_
  refine r_iload_n (pc := 7) C dX11_canWait_7 1 rfl ?_
  obtain ⟨o_a2, h⟩ := h
  obtain ⟨i3, h⟩ := h
  refine r_zald (pc := 8) C dX11_canWait_8 o_a2 i3 ?_
  refine r_topi (fun x4 ex4 => ?_)
  have h := h x4 ex4
  refine r_if_ne (pc := 9) C (tgt := 26) dX11_canWait_9 (by decide) (fun c5 => ?_) (fun c5 => ?_)
  · have h := h.1 c5
    refine r_iconst (pc := 26) C (v := (1 : Int32)) dX11_canWait_26 (by decide) ?_
    refine r_goto (pc := 27) C (tgt := 31) dX11_canWait_27 (by decide) ?_
    exact r_zret (pc := 31) C E ht dX11_canWait_31 (by decide) (by decide) (Or.inr rfl) h
  · have h := h.2 c5
    refine r_aload_n (pc := 12) C dX11_canWait_12 0 rfl ?_
    obtain ⟨a6, ea6, h⟩ := h
    refine r_getr (pc := 13) C fL_X11_338 dX11_canWait_13 o_v0 ea6 ?_
    obtain ⟨o_a6, h⟩ := h
    obtain ⟨a7, ea7, h⟩ := h
    refine r_getNr (pc := 16) C fN_X11_262 dX11_canWait_16 o_a6 ea7 ?_
    refine r_iload_n (pc := 19) C dX11_canWait_19 1 rfl ?_
    obtain ⟨o_a7, h⟩ := h
    obtain ⟨i8, h⟩ := h
    refine r_iald (pc := 20) C dX11_canWait_20 o_a7 i8 ?_
    refine r_topi (fun x9 ex9 => ?_)
    have h := h x9 ex9
    refine r_bipush (pc := 21) C (v := (-2 : Int32)) dX11_canWait_21 (by decide) ?_
    refine r_icmp_eq (pc := 23) C (tgt := 30) dX11_canWait_23 (by decide) (fun c10 => ?_) (fun c10 => ?_)
    · have h := h.1 c10
      refine r_iconst (pc := 30) C (v := (0 : Int32)) dX11_canWait_30 (by decide) ?_
      exact r_zret (pc := 31) C E ht dX11_canWait_31 (by decide) (by decide) (Or.inl rfl) h
    · have h := h.2 c10
      refine r_iconst (pc := 26) C (v := (1 : Int32)) dX11_canWait_26 (by decide) ?_
      refine r_goto (pc := 27) C (tgt := 31) dX11_canWait_27 (by decide) ?_
      exact r_zret (pc := 31) C E ht dX11_canWait_31 (by decide) (by decide) (Or.inr rfl) h
def P_X11_canWait (v0 : Nat) (v1 : Int32) (Q : Int32 → HS → Prop) (S : HS) : Prop := P_X11_canWait_0 Q v0 v1 S
theorem c_X11_canWait {l : Launch} {Ee : EE} {S : HS} {v0 : Nat} {v1 : Int32} {Q : Int32 → HS → Prop} (h : P_X11_canWait v0 v1 Q S) : MI l yX11_canWait cX11_canWait 2 (some .boolean) rm_X11_canWait Ee S [.ref v0, .int v1] (fun r S => bl r ∧ Q r S) :=
  openI (by decide) (Nat.le_of_ble_eq_true rfl) (fun X C E ht hn hE hl => by subst hE; exact r_sub [0, 1] rfl (T_X11_canWait_0 C E ht hn h))
def rm_X11_isPlace : Room := { frames := 0, cells := 0, slots := 0, locals := 0 }
def P_X11_isPlace_0 (Q : Int32 → HS → Prop) (v0 : Nat) (v1 : Int32) (S : HS) : Prop := ob S v0 11 ∧ ((fR S v0 3 = none → (Q (0 : Int32) S)) ∧ (∀ a1 : Nat, fR S v0 3 = some a1 → (((v1 < 0) → (Q (0 : Int32) S)) ∧ ((¬ v1 < 0) → (∃ a4 : Nat, fR S v0 3 = some a4 ∧ (ob S a4 10 ∧ (∀ x5 : Int32, x5 = fI S a4 2 → (((x5 ≤ v1) → (Q (0 : Int32) S)) ∧ ((¬ x5 ≤ v1) → (Q (1 : Int32) S))))))))))
set_option maxRecDepth 20000 in
set_option maxHeartbeats 4000000 in
theorem T_X11_isPlace_0 {X : CX} {Q : Int32 → HS → Prop} (C : Cx X cX11_isPlace RX11 2 rm_X11_isPlace) (E : ReI X rm_X11_isPlace (fun r S => bl r ∧ Q r S)) (ht : (xh X).sig.returnType = (some .boolean)) (hn : (xh X).name = yX11_isPlace.name) {v0 : Nat} {v1 : Int32} {S : HS} (h : P_X11_isPlace_0 Q v0 v1 S) : WS X 2 0 0 0 [(0, .ref v0), (1, .int v1)] [] S := by
  refine r_aload_n (pc := 0) C dX11_isPlace_0 0 rfl ?_
  obtain ⟨o_v0, h⟩ := h
  rcases e2 : fR S v0 3 with _ | a1
  · refine r_get0 (pc := 1) C fL_X11_338 dX11_isPlace_1 o_v0 e2 ?_
    refine r_ifnull0 (pc := 4) C (tgt := 26) dX11_isPlace_4 (by decide) ?_
    have h := h.1 e2
    refine r_iconst (pc := 26) C (v := (0 : Int32)) dX11_isPlace_26 (by decide) ?_
    exact r_zret (pc := 27) C E ht dX11_isPlace_27 (by decide) (by decide) (Or.inl rfl) h
  · refine r_getr (pc := 1) C fL_X11_338 dX11_isPlace_1 o_v0 e2 ?_
    refine r_ifnull (pc := 4) C dX11_isPlace_4 ?_
    have h := h.2 a1 e2
    refine r_iload_n (pc := 7) C dX11_isPlace_7 1 rfl ?_
    refine r_if_lt (pc := 8) C (tgt := 26) dX11_isPlace_8 (by decide) (fun c3 => ?_) (fun c3 => ?_)
    · have h := h.1 c3
      refine r_iconst (pc := 26) C (v := (0 : Int32)) dX11_isPlace_26 (by decide) ?_
      exact r_zret (pc := 27) C E ht dX11_isPlace_27 (by decide) (by decide) (Or.inl rfl) h
    · have h := h.2 c3
      refine r_iload_n (pc := 11) C dX11_isPlace_11 1 rfl ?_
      refine r_aload_n (pc := 12) C dX11_isPlace_12 0 rfl ?_
      obtain ⟨a4, ea4, h⟩ := h
      refine r_getr (pc := 13) C fL_X11_338 dX11_isPlace_13 o_v0 ea4 ?_
      obtain ⟨o_a4, h⟩ := h
      refine r_getNi (pc := 16) C fN_X11_190 dX11_isPlace_16 o_a4 ?_
      refine r_topi (fun x5 ex5 => ?_)
      have h := h x5 ex5
      refine r_icmp_ge (pc := 19) C (tgt := 26) dX11_isPlace_19 (by decide) (fun c6 => ?_) (fun c6 => ?_)
      · have h := h.1 c6
        refine r_iconst (pc := 26) C (v := (0 : Int32)) dX11_isPlace_26 (by decide) ?_
        exact r_zret (pc := 27) C E ht dX11_isPlace_27 (by decide) (by decide) (Or.inl rfl) h
      · have h := h.2 c6
        refine r_iconst (pc := 22) C (v := (1 : Int32)) dX11_isPlace_22 (by decide) ?_
        refine r_goto (pc := 23) C (tgt := 27) dX11_isPlace_23 (by decide) ?_
        exact r_zret (pc := 27) C E ht dX11_isPlace_27 (by decide) (by decide) (Or.inr rfl) h
def P_X11_isPlace (v0 : Nat) (v1 : Int32) (Q : Int32 → HS → Prop) (S : HS) : Prop := P_X11_isPlace_0 Q v0 v1 S
theorem c_X11_isPlace {l : Launch} {Ee : EE} {S : HS} {v0 : Nat} {v1 : Int32} {Q : Int32 → HS → Prop} (h : P_X11_isPlace v0 v1 Q S) : MI l yX11_isPlace cX11_isPlace 2 (some .boolean) rm_X11_isPlace Ee S [.ref v0, .int v1] (fun r S => bl r ∧ Q r S) :=
  openI (by decide) (Nat.le_of_ble_eq_true rfl) (fun X C E ht hn hE hl => by subst hE; exact r_sub [0, 1] rfl (T_X11_isPlace_0 C E ht hn h))
def rm_X11_day : Room := { frames := 1, cells := 0, slots := 0, locals := 22 }
def P_X11_day_21 (Q : Int32 → HS → Prop) (v0 : Nat) (S : HS) : Prop := ob S v0 11 ∧ (P_X11_refused v0 (1 : Int32) (fun x3 S1 => Gr S S1 → (Q x3 S1)) S)
set_option maxRecDepth 20000 in
set_option maxHeartbeats 4000000 in
theorem T_X11_day_21 {X : CX} {Q : Int32 → HS → Prop} (C : Cx X cX11_day RX11 7 rm_X11_day) (E : ReI X rm_X11_day Q) (ht : (xh X).sig.returnType = (some .int)) (hn : (xh X).name = yX11_day.name) {v0 : Nat} {S : HS} (h : P_X11_day_21 Q v0 S) : WS X 7 0 0 21 [(0, .ref v0)] [] S := by
  refine r_aload_n (pc := 21) C dX11_day_21 0 rfl ?_
  refine r_iconst (pc := 22) C (v := (1 : Int32)) dX11_day_22 (by decide) ?_
  obtain ⟨o_v0, h⟩ := h
  refine r_callVi0 (pc := 23) C (rest := []) (a := v0) o_v0 [.int (1 : Int32)] yV_X11_refused g_1250 (c_X11_refused h) dX11_day_23 rfl rfl (Nat.le_of_ble_eq_true rfl) ⟨by decide, by decide⟩ ⟨by decide, by decide⟩ ⟨rfl, rfl⟩ (fun x3 S1 h g2 => ?_)
  have h := h g2
  have o_v0 := gr_ob g2 o_v0
  exact r_iret (pc := 26) C E ht dX11_day_26 (by decide) (by decide) h
def P_X11_day_50 (Q : Int32 → HS → Prop) (v0 : Nat) (S : HS) : Prop := ob S v0 11 ∧ (P_X11_refused v0 (2 : Int32) (fun x3 S1 => Gr S S1 → (Q x3 S1)) S)
set_option maxRecDepth 20000 in
set_option maxHeartbeats 4000000 in
theorem T_X11_day_50 {X : CX} {Q : Int32 → HS → Prop} (C : Cx X cX11_day RX11 7 rm_X11_day) (E : ReI X rm_X11_day Q) (ht : (xh X).sig.returnType = (some .int)) (hn : (xh X).name = yX11_day.name) {v0 : Nat} {S : HS} (h : P_X11_day_50 Q v0 S) : WS X 7 0 0 50 [(0, .ref v0)] [] S := by
  refine r_aload_n (pc := 50) C dX11_day_50 0 rfl ?_
  refine r_iconst (pc := 51) C (v := (2 : Int32)) dX11_day_51 (by decide) ?_
  obtain ⟨o_v0, h⟩ := h
  refine r_callVi0 (pc := 52) C (rest := []) (a := v0) o_v0 [.int (2 : Int32)] yV_X11_refused g_1250 (c_X11_refused h) dX11_day_52 rfl rfl (Nat.le_of_ble_eq_true rfl) ⟨by decide, by decide⟩ ⟨by decide, by decide⟩ ⟨rfl, rfl⟩ (fun x3 S1 h g2 => ?_)
  have h := h g2
  have o_v0 := gr_ob g2 o_v0
  exact r_iret (pc := 55) C E ht dX11_day_55 (by decide) (by decide) h
def P_X11_day_134 (Q : Int32 → HS → Prop) (X73 : Nat → Int32 → Int32 → Int32 → Int32 → HS → Prop) (v0 : Nat) (v2 : Int32) (v3 : Int32) (v5 : Int32) (v6 : Int32) (s0 : Nat) (s1 : Int32) (s2 : Int32) (S : HS) : Prop := ob S s0 11 ∧ (∀ x1 : Int32, x1 = s1 ||| s2 → (∀ S2 : HS, S2 = sI S s0 20 x1 → (∀ x3 : Int32, x3 = v6 + (1 : Int32) → (X73 v0 v2 v3 v5 x3 S2))))
set_option maxRecDepth 20000 in
set_option maxHeartbeats 4000000 in
theorem T_X11_day_134 {X : CX} {Q : Int32 → HS → Prop} (C : Cx X cX11_day RX11 7 rm_X11_day) (E : ReI X rm_X11_day Q) (ht : (xh X).sig.returnType = (some .int)) (hn : (xh X).name = yX11_day.name) {X73 : Nat → Int32 → Int32 → Int32 → Int32 → HS → Prop} (hX73 : ∀ (v0 : Nat) (v2 : Int32) (v3 : Int32) (v5 : Int32) (v6 : Int32) (S : HS), X73 v0 v2 v3 v5 v6 S → WS X 7 0 0 73 [(0, .ref v0), (2, .int v2), (3, .int v3), (5, .int v5), (6, .int v6)] [] S) {v0 : Nat} {v2 : Int32} {v3 : Int32} {v5 : Int32} {v6 : Int32} {s0 : Nat} {s1 : Int32} {s2 : Int32} {S : HS} (h : P_X11_day_134 Q X73 v0 v2 v3 v5 v6 s0 s1 s2 S) : WS X 7 0 0 134 [(0, .ref v0), (2, .int v2), (3, .int v3), (5, .int v5), (6, .int v6)] [.int s2, .int s1, .ref s0] S := by
  refine r_ior (pc := 134) C dX11_day_134 ?_
  obtain ⟨o_s0, h⟩ := h
  refine r_topi (fun x1 ex1 => ?_)
  have h := h x1 ex1
  refine r_puti (pc := 135) C pfL_X11_475 dX11_day_135 o_s0 ?_
  refine r_heap (fun S2 eS2 => ?_)
  have h := h S2 eS2
  have o_s0 := ob_I eS2 o_s0
  obtain ⟨x3, ex3⟩ : ∃ z : Int32, z = v6 + (1 : Int32) := ⟨_, rfl⟩
  have h := h x3 ex3
  refine r_iinc (pc := 138) C (v := x3) (lv' := [(6, .int x3), (0, .ref v0), (2, .int v2), (3, .int v3), (5, .int v5)]) dX11_day_138 4 rfl ex3.symm (by decide) rfl ?_
  refine r_goto (pc := 141) C (tgt := 73) dX11_day_141 (by decide) ?_
  exact r_sub [1, 2, 3, 4, 0] rfl (hX73 v0 v2 v3 v5 x3 S2 h)
def B_X11_day_147 (Q : Int32 → HS → Prop) (X147 : Nat → Int32 → Int32 → Int32 → HS → Prop) (v0 : Nat) (v2 : Int32) (v3 : Int32) (v6 : Int32) (S : HS) : Prop := (((7 : Int32) ≤ v6) → (ob S v0 11 ∧ (∃ a2 : Nat, fR S v0 21 = some a2 ∧ (ob S a2 14 ∧ (∀ x4 : Int64, x4 = v2.toInt64 → (vp_in (0 : Int32) (hN S a2) ∧ (∀ S5 : HS, S5 = sJ S a2 (0 : Int32).toNatClampNeg x4 → (∃ a6 : Nat, fR S5 v0 21 = some a6 ∧ (ob S5 a6 14 ∧ (∀ x8 : Int64, x8 = v3.toInt64 → (vp_in (1 : Int32) (hN S5 a6) ∧ (∀ S9 : HS, S9 = sJ S5 a6 (1 : Int32).toNatClampNeg x8 → (∀ S10 : HS, S10 = sI S9 v0 24 (0 : Int32) → (∀ S11 : HS, S11 = sI S10 v0 25 (0 : Int32) → (∀ x12 : Int32, x12 = fI S11 v0 20 → (P_X11_good v0 x12 (fun x15 S13 => Gr S11 S13 → (Q x15 S13)) S11)))))))))))))))) ∧ ((¬ (7 : Int32) ≤ v6) → (ob S v0 11 ∧ (∃ a16 : Nat, fR S v0 21 = some a16 ∧ (ob S a16 14 ∧ (vp_in v6 (hN S a16) ∧ (∀ S18 : HS, S18 = sJ S a16 v6.toNatClampNeg (0 : Int64) → (∀ x19 : Int32, x19 = v6 + (1 : Int32) → (X147 v0 v2 v3 x19 S18))))))))
def P_X11_day_147 (Q : Int32 → HS → Prop) (v0 : Nat) (v2 : Int32) (v3 : Int32) (v6 : Int32) (S : HS) : Prop := ∀ X147 : Nat → Int32 → Int32 → Int32 → HS → Prop, (∀ (v0 : Nat) (v2 : Int32) (v3 : Int32) (v6 : Int32) (S : HS), B_X11_day_147 Q X147 v0 v2 v3 v6 S → X147 v0 v2 v3 v6 S) → X147 v0 v2 v3 v6 S
set_option maxRecDepth 20000 in
set_option maxHeartbeats 4000000 in
theorem TB_X11_day_147 {X : CX} {Q : Int32 → HS → Prop} (C : Cx X cX11_day RX11 7 rm_X11_day) (E : ReI X rm_X11_day Q) (ht : (xh X).sig.returnType = (some .int)) (hn : (xh X).name = yX11_day.name) {X147 : Nat → Int32 → Int32 → Int32 → HS → Prop} (hX147 : ∀ (v0 : Nat) (v2 : Int32) (v3 : Int32) (v6 : Int32) (S : HS), X147 v0 v2 v3 v6 S → WS X 7 0 0 147 [(0, .ref v0), (2, .int v2), (3, .int v3), (6, .int v6)] [] S) {v0 : Nat} {v2 : Int32} {v3 : Int32} {v6 : Int32} {S : HS} (h : B_X11_day_147 Q X147 v0 v2 v3 v6 S) : WS X 7 0 0 147 [(0, .ref v0), (2, .int v2), (3, .int v3), (6, .int v6)] [] S := by
  refine r_iload (pc := 147) C dX11_day_147 3 rfl ?_
  refine r_bipush (pc := 149) C (v := (7 : Int32)) dX11_day_149 (by decide) ?_
  refine r_icmp_ge (pc := 151) C (tgt := 168) dX11_day_151 (by decide) (fun c1 => ?_) (fun c1 => ?_)
  · have h := h.1 c1
    refine r_aload_n (pc := 168) C dX11_day_168 0 rfl ?_
    obtain ⟨o_v0, h⟩ := h
    obtain ⟨a2, ea2, h⟩ := h
    refine r_getr (pc := 169) C fL_X11_31 dX11_day_169 o_v0 ea2 ?_
    refine r_iconst (pc := 172) C (v := (0 : Int32)) dX11_day_172 (by decide) ?_
    refine r_iload_n (pc := 173) C dX11_day_173 1 rfl ?_
    refine r_i2l (pc := 174) C dX11_day_174 ?_
    obtain ⟨o_a2, h⟩ := h
    refine r_topl (fun x4 ex4 => ?_)
    have h := h x4 ex4
    obtain ⟨i3, h⟩ := h
    refine r_last (pc := 175) C dX11_day_175 o_a2 i3 ?_
    refine r_heap (fun S5 eS5 => ?_)
    have h := h S5 eS5
    have o_a2 := ob_J eS5 o_a2
    have o_v0 := ob_J eS5 o_v0
    refine r_aload_n (pc := 176) C dX11_day_176 0 rfl ?_
    obtain ⟨a6, ea6, h⟩ := h
    refine r_getr (pc := 177) C fL_X11_31 dX11_day_177 o_v0 ea6 ?_
    refine r_iconst (pc := 180) C (v := (1 : Int32)) dX11_day_180 (by decide) ?_
    refine r_iload_n (pc := 181) C dX11_day_181 2 rfl ?_
    refine r_i2l (pc := 182) C dX11_day_182 ?_
    obtain ⟨o_a6, h⟩ := h
    refine r_topl (fun x8 ex8 => ?_)
    have h := h x8 ex8
    obtain ⟨i7, h⟩ := h
    refine r_last (pc := 183) C dX11_day_183 o_a6 i7 ?_
    refine r_heap (fun S9 eS9 => ?_)
    have h := h S9 eS9
    have o_a2 := ob_J eS9 o_a2
    have o_a6 := ob_J eS9 o_a6
    have o_v0 := ob_J eS9 o_v0
    refine r_aload_n (pc := 184) C dX11_day_184 0 rfl ?_
    refine r_iconst (pc := 185) C (v := (0 : Int32)) dX11_day_185 (by decide) ?_
    refine r_puti (pc := 186) C pfL_X11_340 dX11_day_186 o_v0 ?_
    refine r_heap (fun S10 eS10 => ?_)
    have h := h S10 eS10
    have o_a2 := ob_I eS10 o_a2
    have o_a6 := ob_I eS10 o_a6
    have o_v0 := ob_I eS10 o_v0
    refine r_aload_n (pc := 189) C dX11_day_189 0 rfl ?_
    refine r_iconst (pc := 190) C (v := (0 : Int32)) dX11_day_190 (by decide) ?_
    refine r_puti (pc := 191) C pfL_X11_343 dX11_day_191 o_v0 ?_
    refine r_heap (fun S11 eS11 => ?_)
    have h := h S11 eS11
    have o_a2 := ob_I eS11 o_a2
    have o_a6 := ob_I eS11 o_a6
    have o_v0 := ob_I eS11 o_v0
    refine r_aload_n (pc := 194) C dX11_day_194 0 rfl ?_
    refine r_aload_n (pc := 195) C dX11_day_195 0 rfl ?_
    refine r_geti (pc := 196) C fL_X11_475 dX11_day_196 o_v0 ?_
    refine r_topi (fun x12 ex12 => ?_)
    have h := h x12 ex12
    refine r_callVi0 (pc := 199) C (rest := []) (a := v0) o_v0 [.int x12] yV_X11_good g_1518 (c_X11_good h) dX11_day_199 rfl rfl (Nat.le_of_ble_eq_true rfl) ⟨by decide, by decide⟩ ⟨by decide, by decide⟩ ⟨rfl, rfl⟩ (fun x15 S13 h g14 => ?_)
    have h := h g14
    have o_a2 := gr_ob g14 o_a2
    have o_a6 := gr_ob g14 o_a6
    have o_v0 := gr_ob g14 o_v0
    exact r_iret (pc := 202) C E ht dX11_day_202 (by decide) (by decide) h
  · have h := h.2 c1
    refine r_aload_n (pc := 154) C dX11_day_154 0 rfl ?_
    obtain ⟨o_v0, h⟩ := h
    obtain ⟨a16, ea16, h⟩ := h
    refine r_getr (pc := 155) C fL_X11_31 dX11_day_155 o_v0 ea16 ?_
    refine r_iload (pc := 158) C dX11_day_158 3 rfl ?_
    refine r_lconst (pc := 160) C (v := (0 : Int64)) dX11_day_160 (by decide) ?_
    obtain ⟨o_a16, h⟩ := h
    obtain ⟨i17, h⟩ := h
    refine r_last (pc := 161) C dX11_day_161 o_a16 i17 ?_
    refine r_heap (fun S18 eS18 => ?_)
    have h := h S18 eS18
    have o_a16 := ob_J eS18 o_a16
    have o_v0 := ob_J eS18 o_v0
    obtain ⟨x19, ex19⟩ : ∃ z : Int32, z = v6 + (1 : Int32) := ⟨_, rfl⟩
    have h := h x19 ex19
    refine r_iinc (pc := 162) C (v := x19) (lv' := [(6, .int x19), (0, .ref v0), (2, .int v2), (3, .int v3)]) dX11_day_162 3 rfl ex19.symm (by decide) rfl ?_
    refine r_goto (pc := 165) C (tgt := 147) dX11_day_165 (by decide) ?_
    exact r_sub [1, 2, 3, 0] rfl (hX147 v0 v2 v3 x19 S18 h)
theorem T_X11_day_147 {X : CX} {Q : Int32 → HS → Prop} (C : Cx X cX11_day RX11 7 rm_X11_day) (E : ReI X rm_X11_day Q) (ht : (xh X).sig.returnType = (some .int)) (hn : (xh X).name = yX11_day.name) {v0 : Nat} {v2 : Int32} {v3 : Int32} {v6 : Int32} {S : HS} (h : P_X11_day_147 Q v0 v2 v3 v6 S) : WS X 7 0 0 147 [(0, .ref v0), (2, .int v2), (3, .int v3), (6, .int v6)] [] S :=
  h (fun v0 v2 v3 v6 S => WS X 7 0 0 147 [(0, .ref v0), (2, .int v2), (3, .int v3), (6, .int v6)] [] S) (fun v0 v2 v3 v6 S hh => TB_X11_day_147 C E ht hn (fun v0 v2 v3 v6 S z => z) hh)
def B_X11_day_73 (Q : Int32 → HS → Prop) (X73 : Nat → Int32 → Int32 → Int32 → Int32 → HS → Prop) (v0 : Nat) (v2 : Int32) (v3 : Int32) (v5 : Int32) (v6 : Int32) (S : HS) : Prop := ob S v0 11 ∧ (∃ a1 : Nat, fR S v0 3 = some a1 ∧ (ob S a1 10 ∧ (∀ x2 : Int32, x2 = fI S a1 1 → (((x2 ≤ v6) → (P_X11_day_147 Q v0 v2 v3 (0 : Int32) S)) ∧ ((¬ x2 ≤ v6) → (∀ x4 : Int64, x4 = (((75 : Int64) * v5.toInt64) + (74 : Int64)) - (((75 : Int64) * v5.toInt64) + (74 : Int64)) / (65537 : Int64) * (65537 : Int64) → (∀ x5 : Int32, x5 = x4.toInt32 → (∀ x6 : Int32, x6 = fI S v0 20 → (∀ x7 : Int32, x7 = x5 - x5 / (100 : Int32) * (100 : Int32) → (∃ a8 : Nat, fR S v0 3 = some a8 ∧ (ob S a8 10 ∧ (∃ a9 : Nat, fR S a8 11 = some a9 ∧ (ob S a9 13 ∧ (vp_in v6 (hN S a9) ∧ ∀ x11 : Int32, x11 = fI S a9 v6.toNatClampNeg → (((x11 ≤ x7) → (P_X11_day_134 Q X73 v0 v2 v3 x5 v6 v0 x6 (0 : Int32) S)) ∧ ((¬ x11 ≤ x7) → (P_X11_day_134 Q X73 v0 v2 v3 x5 v6 v0 x6 ((1 : Int32) <<< (v6 &&& 31)) S)))))))))))))))))
def P_X11_day_73 (Q : Int32 → HS → Prop) (v0 : Nat) (v2 : Int32) (v3 : Int32) (v5 : Int32) (v6 : Int32) (S : HS) : Prop := ∀ X73 : Nat → Int32 → Int32 → Int32 → Int32 → HS → Prop, (∀ (v0 : Nat) (v2 : Int32) (v3 : Int32) (v5 : Int32) (v6 : Int32) (S : HS), B_X11_day_73 Q X73 v0 v2 v3 v5 v6 S → X73 v0 v2 v3 v5 v6 S) → X73 v0 v2 v3 v5 v6 S
set_option maxRecDepth 20000 in
set_option maxHeartbeats 4000000 in
theorem TB_X11_day_73 {X : CX} {Q : Int32 → HS → Prop} (C : Cx X cX11_day RX11 7 rm_X11_day) (E : ReI X rm_X11_day Q) (ht : (xh X).sig.returnType = (some .int)) (hn : (xh X).name = yX11_day.name) {X73 : Nat → Int32 → Int32 → Int32 → Int32 → HS → Prop} (hX73 : ∀ (v0 : Nat) (v2 : Int32) (v3 : Int32) (v5 : Int32) (v6 : Int32) (S : HS), X73 v0 v2 v3 v5 v6 S → WS X 7 0 0 73 [(0, .ref v0), (2, .int v2), (3, .int v3), (5, .int v5), (6, .int v6)] [] S) {v0 : Nat} {v2 : Int32} {v3 : Int32} {v5 : Int32} {v6 : Int32} {S : HS} (h : B_X11_day_73 Q X73 v0 v2 v3 v5 v6 S) : WS X 7 0 0 73 [(0, .ref v0), (2, .int v2), (3, .int v3), (5, .int v5), (6, .int v6)] [] S := by
  refine r_iload (pc := 73) C dX11_day_73 4 rfl ?_
  refine r_aload_n (pc := 75) C dX11_day_75 0 rfl ?_
  obtain ⟨o_v0, h⟩ := h
  obtain ⟨a1, ea1, h⟩ := h
  refine r_getr (pc := 76) C fL_X11_338 dX11_day_76 o_v0 ea1 ?_
  obtain ⟨o_a1, h⟩ := h
  refine r_getNi (pc := 79) C fN_X11_219 dX11_day_79 o_a1 ?_
  refine r_topi (fun x2 ex2 => ?_)
  have h := h x2 ex2
  refine r_icmp_ge (pc := 82) C (tgt := 144) dX11_day_82 (by decide) (fun c3 => ?_) (fun c3 => ?_)
  · have h := h.1 c3
    refine r_iconst (pc := 144) C (v := (0 : Int32)) dX11_day_144 (by decide) ?_
    refine r_istore (pc := 145) C dX11_day_145 (by decide) (lv' := [(6, .int (0 : Int32)), (0, .ref v0), (2, .int v2), (3, .int v3), (5, .int v5)]) rfl ?_
    exact r_sub [1, 2, 3, 0] rfl (T_X11_day_147 C E ht hn h)
  · have h := h.2 c3
    refine r_ldc2 (pc := 85) C (v := (75 : Int64)) dX11_day_85 g_1772 ?_
    refine r_iload (pc := 88) C dX11_day_88 3 rfl ?_
    refine r_i2l (pc := 90) C dX11_day_90 ?_
    refine r_lmul (pc := 91) C dX11_day_91 ?_
    refine r_ldc2 (pc := 92) C (v := (74 : Int64)) dX11_day_92 g_1773 ?_
    refine r_ladd (pc := 95) C dX11_day_95 ?_
    refine r_ldc2 (pc := 96) C (v := (65537 : Int64)) dX11_day_96 g_1774 ?_
    refine r_lrem (pc := 99) C dX11_day_99 (by decide) ?_
    refine r_topl (fun x4 ex4 => ?_)
    have h := h x4 ex4
    refine r_l2i (pc := 100) C dX11_day_100 ?_
    refine r_topi (fun x5 ex5 => ?_)
    have h := h x5 ex5
    refine r_istore (pc := 101) C dX11_day_101 (by decide) (lv' := [(5, .int x5), (0, .ref v0), (2, .int v2), (3, .int v3), (6, .int v6)]) rfl ?_
    refine r_aload_n (pc := 103) C dX11_day_103 1 rfl ?_
    refine r_dup (pc := 104) C dX11_day_104 rfl ?_
    refine r_geti (pc := 105) C fL_X11_475 dX11_day_105 o_v0 ?_
    refine r_topi (fun x6 ex6 => ?_)
    have h := h x6 ex6
    refine r_iload (pc := 108) C dX11_day_108 0 rfl ?_
    refine r_bipush (pc := 110) C (v := (100 : Int32)) dX11_day_110 (by decide) ?_
    refine r_irem (pc := 112) C dX11_day_112 (by decide) ?_
    refine r_topi (fun x7 ex7 => ?_)
    have h := h x7 ex7
    refine r_aload_n (pc := 113) C dX11_day_113 1 rfl ?_
    obtain ⟨a8, ea8, h⟩ := h
    refine r_getr (pc := 114) C fL_X11_338 dX11_day_114 o_v0 ea8 ?_
    obtain ⟨o_a8, h⟩ := h
    obtain ⟨a9, ea9, h⟩ := h
    refine r_getNr (pc := 117) C fN_X11_246 dX11_day_117 o_a8 ea9 ?_
    refine r_iload (pc := 120) C dX11_day_120 4 rfl ?_
    obtain ⟨o_a9, h⟩ := h
    obtain ⟨i10, h⟩ := h
    refine r_iald (pc := 122) C dX11_day_122 o_a9 i10 ?_
    refine r_topi (fun x11 ex11 => ?_)
    have h := h x11 ex11
    refine r_icmp_ge (pc := 123) C (tgt := 133) dX11_day_123 (by decide) (fun c12 => ?_) (fun c12 => ?_)
    · have h := h.1 c12
      refine r_iconst (pc := 133) C (v := (0 : Int32)) dX11_day_133 (by decide) ?_
      exact r_sub [1, 2, 3, 0, 4] rfl (T_X11_day_134 C E ht hn hX73 h)
    · have h := h.2 c12
      refine r_iconst (pc := 126) C (v := (1 : Int32)) dX11_day_126 (by decide) ?_
      refine r_iload (pc := 127) C dX11_day_127 4 rfl ?_
      refine r_ishl (pc := 129) C dX11_day_129 ?_
      refine r_goto (pc := 130) C (tgt := 134) dX11_day_130 (by decide) ?_
      exact r_sub [1, 2, 3, 0, 4] rfl (T_X11_day_134 C E ht hn hX73 h)
theorem T_X11_day_73 {X : CX} {Q : Int32 → HS → Prop} (C : Cx X cX11_day RX11 7 rm_X11_day) (E : ReI X rm_X11_day Q) (ht : (xh X).sig.returnType = (some .int)) (hn : (xh X).name = yX11_day.name) {v0 : Nat} {v2 : Int32} {v3 : Int32} {v5 : Int32} {v6 : Int32} {S : HS} (h : P_X11_day_73 Q v0 v2 v3 v5 v6 S) : WS X 7 0 0 73 [(0, .ref v0), (2, .int v2), (3, .int v3), (5, .int v5), (6, .int v6)] [] S :=
  h (fun v0 v2 v3 v5 v6 S => WS X 7 0 0 73 [(0, .ref v0), (2, .int v2), (3, .int v3), (5, .int v5), (6, .int v6)] [] S) (fun v0 v2 v3 v5 v6 S hh => TB_X11_day_73 C E ht hn (fun v0 v2 v3 v5 v6 S z => z) hh)
def P_X11_day_0 (Q : Int32 → HS → Prop) (v0 : Nat) (v1 : Int32) (v2 : Int32) (v3 : Int32) (v4 : Int32) (S : HS) : Prop := ob S v0 11 ∧ (∀ S1 : HS, S1 = sI S v0 0 (0 : Int32) → (P_X11_isWalker v0 v1 (fun x4 S2 => Gr S1 S2 → bl x4 → (((x4 = 0) → (P_X11_day_21 Q v0 S2)) ∧ ((¬ x4 = 0) → (P_X11_isPlace v0 v2 (fun x8 S6 => Gr S2 S6 → bl x8 → (((¬ x8 = 0) → (P_X11_in v3 (0 : Int32) (400 : Int32) (fun x12 S10 => Gr S6 S10 → bl x12 → (((x12 = 0) → (P_X11_day_50 Q v0 S10)) ∧ ((¬ x12 = 0) → (P_X11_in v4 (0 : Int32) (65536 : Int32) (fun x16 S14 => Gr S10 S14 → bl x16 → (((¬ x16 = 0) → (∀ S18 : HS, S18 = sI S14 v0 19 v1 → (∀ S19 : HS, S19 = sI S18 v0 20 (0 : Int32) → (P_X11_day_73 Q v0 v2 v3 v4 (0 : Int32) S19)))) ∧ ((x16 = 0) → (P_X11_day_50 Q v0 S14)))) S10)))) S6)) ∧ ((x8 = 0) → (P_X11_day_21 Q v0 S6)))) S2)))) S1))
set_option maxRecDepth 20000 in
set_option maxHeartbeats 4000000 in
theorem T_X11_day_0 {X : CX} {Q : Int32 → HS → Prop} (C : Cx X cX11_day RX11 7 rm_X11_day) (E : ReI X rm_X11_day Q) (ht : (xh X).sig.returnType = (some .int)) (hn : (xh X).name = yX11_day.name) {v0 : Nat} {v1 : Int32} {v2 : Int32} {v3 : Int32} {v4 : Int32} {S : HS} (h : P_X11_day_0 Q v0 v1 v2 v3 v4 S) : WS X 7 0 0 0 [(0, .ref v0), (1, .int v1), (2, .int v2), (3, .int v3), (4, .int v4)] [] S := by
  refine r_aload_n (pc := 0) C dX11_day_0 0 rfl ?_
  refine r_iconst (pc := 1) C (v := (0 : Int32)) dX11_day_1 (by decide) ?_
  obtain ⟨o_v0, h⟩ := h
  refine r_puti (pc := 2) C pfL_X11_40 dX11_day_2 o_v0 ?_
  refine r_heap (fun S1 eS1 => ?_)
  have h := h S1 eS1
  have o_v0 := ob_I eS1 o_v0
  refine r_aload_n (pc := 5) C dX11_day_5 0 rfl ?_
  refine r_iload_n (pc := 6) C dX11_day_6 1 rfl ?_
  refine r_callVi0 (pc := 7) C (rest := []) (a := v0) o_v0 [.int v1] yV_X11_isWalker g_1538 (c_X11_isWalker h) dX11_day_7 rfl rfl (Nat.le_of_ble_eq_true rfl) ⟨by decide, by decide⟩ ⟨by decide, by decide⟩ ⟨rfl, rfl⟩ (fun x4 S2 h g3 => ?_)
  have bx4 := h.1
  have h := h.2 g3 bx4
  have o_v0 := gr_ob g3 o_v0
  refine r_if_eq (pc := 10) C (tgt := 21) dX11_day_10 (by decide) (fun c5 => ?_) (fun c5 => ?_)
  · have h := h.1 c5
    exact r_sub [0] rfl (T_X11_day_21 C E ht hn h)
  · have h := h.2 c5
    refine r_aload_n (pc := 13) C dX11_day_13 0 rfl ?_
    refine r_iload_n (pc := 14) C dX11_day_14 2 rfl ?_
    refine r_callVi0 (pc := 15) C (rest := []) (a := v0) o_v0 [.int v2] yV_X11_isPlace g_1679 (c_X11_isPlace h) dX11_day_15 rfl rfl (Nat.le_of_ble_eq_true rfl) ⟨by decide, by decide⟩ ⟨by decide, by decide⟩ ⟨rfl, rfl⟩ (fun x8 S6 h g7 => ?_)
    have bx8 := h.1
    have h := h.2 g7 bx8
    have o_v0 := gr_ob g7 o_v0
    refine r_if_ne (pc := 18) C (tgt := 27) dX11_day_18 (by decide) (fun c9 => ?_) (fun c9 => ?_)
    · have h := h.1 c9
      refine r_iload_n (pc := 27) C dX11_day_27 3 rfl ?_
      refine r_iconst (pc := 28) C (v := (0 : Int32)) dX11_day_28 (by decide) ?_
      refine r_sipush (pc := 29) C (v := (400 : Int32)) dX11_day_29 (by decide) ?_
      refine r_callSi0 (pc := 32) C (rest := []) rfl [.int v3, .int (0 : Int32), .int (400 : Int32)] yS_X11_in g_1434 (c_X11_in h) dX11_day_32 rfl rfl (Nat.le_of_ble_eq_true rfl) ⟨by decide, by decide⟩ ⟨by decide, by decide⟩ ⟨rfl, rfl⟩ (fun x12 S10 h g11 => ?_)
      have bx12 := h.1
      have h := h.2 g11 bx12
      have o_v0 := gr_ob g11 o_v0
      refine r_if_eq (pc := 35) C (tgt := 50) dX11_day_35 (by decide) (fun c13 => ?_) (fun c13 => ?_)
      · have h := h.1 c13
        exact r_sub [0] rfl (T_X11_day_50 C E ht hn h)
      · have h := h.2 c13
        refine r_iload (pc := 38) C dX11_day_38 4 rfl ?_
        refine r_iconst (pc := 40) C (v := (0 : Int32)) dX11_day_40 (by decide) ?_
        refine r_ldcw (pc := 41) C (v := (65536 : Int32)) dX11_day_41 g_1771 ?_
        refine r_callSi0 (pc := 44) C (rest := []) rfl [.int v4, .int (0 : Int32), .int (65536 : Int32)] yS_X11_in g_1434 (c_X11_in h) dX11_day_44 rfl rfl (Nat.le_of_ble_eq_true rfl) ⟨by decide, by decide⟩ ⟨by decide, by decide⟩ ⟨rfl, rfl⟩ (fun x16 S14 h g15 => ?_)
        have bx16 := h.1
        have h := h.2 g15 bx16
        have o_v0 := gr_ob g15 o_v0
        refine r_if_ne (pc := 47) C (tgt := 56) dX11_day_47 (by decide) (fun c17 => ?_) (fun c17 => ?_)
        · have h := h.1 c17
          refine r_aload_n (pc := 56) C dX11_day_56 0 rfl ?_
          refine r_iload_n (pc := 57) C dX11_day_57 1 rfl ?_
          refine r_puti (pc := 58) C pfL_X11_28 dX11_day_58 o_v0 ?_
          refine r_heap (fun S18 eS18 => ?_)
          have h := h S18 eS18
          have o_v0 := ob_I eS18 o_v0
          refine r_aload_n (pc := 61) C dX11_day_61 0 rfl ?_
          refine r_iconst (pc := 62) C (v := (0 : Int32)) dX11_day_62 (by decide) ?_
          refine r_puti (pc := 63) C pfL_X11_475 dX11_day_63 o_v0 ?_
          refine r_heap (fun S19 eS19 => ?_)
          have h := h S19 eS19
          have o_v0 := ob_I eS19 o_v0
          refine r_iload (pc := 66) C dX11_day_66 4 rfl ?_
          refine r_istore (pc := 68) C dX11_day_68 (by decide) (lv' := [(5, .int v4), (0, .ref v0), (1, .int v1), (2, .int v2), (3, .int v3), (4, .int v4)]) rfl ?_
          refine r_iconst (pc := 70) C (v := (0 : Int32)) dX11_day_70 (by decide) ?_
          refine r_istore (pc := 71) C dX11_day_71 (by decide) (lv' := [(6, .int (0 : Int32)), (5, .int v4), (0, .ref v0), (1, .int v1), (2, .int v2), (3, .int v3), (4, .int v4)]) rfl ?_
          exact r_sub [2, 4, 5, 1, 0] rfl (T_X11_day_73 C E ht hn h)
        · have h := h.2 c17
          exact r_sub [0] rfl (T_X11_day_50 C E ht hn h)
    · have h := h.2 c9
      exact r_sub [0] rfl (T_X11_day_21 C E ht hn h)
def P_X11_day (v0 : Nat) (v1 : Int32) (v2 : Int32) (v3 : Int32) (v4 : Int32) (Q : Int32 → HS → Prop) (S : HS) : Prop := P_X11_day_0 Q v0 v1 v2 v3 v4 S
theorem c_X11_day {l : Launch} {Ee : EE} {S : HS} {v0 : Nat} {v1 : Int32} {v2 : Int32} {v3 : Int32} {v4 : Int32} {Q : Int32 → HS → Prop} (h : P_X11_day v0 v1 v2 v3 v4 Q S) : MI l yX11_day cX11_day 7 (some .int) rm_X11_day Ee S [.ref v0, .int v1, .int v2, .int v3, .int v4] Q :=
  openI (by decide) (Nat.le_of_ble_eq_true rfl) (fun X C E ht hn hE hl => by subst hE; exact r_sub [0, 1, 2, 3, 4] rfl (T_X11_day_0 C E ht hn h))
def rm_X11_wetAtBest : Room := { frames := 7, cells := 0, slots := 0, locals := 189 }
def P_X11_wetAtBest_0 (Q : Int64 → HS → Prop) (v0 : Nat) (v1 : Int32) (v2 : Int32) (v3 : Int32) (v4 : Int32) (S : HS) : Prop := ob S v0 11 ∧ (P_X11_bestOf v0 v1 v2 v3 v4 (fun x3 S1 => Gr S S1 → (P_X11_wetOf v0 v1 v2 v3 v4 x3 (fun x6 S4 => Gr S1 S4 → (Q x6 S4)) S1)) S)
set_option maxRecDepth 20000 in
set_option maxHeartbeats 4000000 in
theorem T_X11_wetAtBest_0 {X : CX} {Q : Int64 → HS → Prop} (C : Cx X cX11_wetAtBest RX11 5 rm_X11_wetAtBest) (E : ReJ X rm_X11_wetAtBest Q) (ht : (xh X).sig.returnType = (some .long)) (hn : (xh X).name = yX11_wetAtBest.name) {v0 : Nat} {v1 : Int32} {v2 : Int32} {v3 : Int32} {v4 : Int32} {S : HS} (h : P_X11_wetAtBest_0 Q v0 v1 v2 v3 v4 S) : WS X 5 0 0 0 [(0, .ref v0), (1, .int v1), (2, .int v2), (3, .int v3), (4, .int v4)] [] S := by
  refine r_aload_n (pc := 0) C dX11_wetAtBest_0 0 rfl ?_
  refine r_iload_n (pc := 1) C dX11_wetAtBest_1 1 rfl ?_
  refine r_iload_n (pc := 2) C dX11_wetAtBest_2 2 rfl ?_
  refine r_iload_n (pc := 3) C dX11_wetAtBest_3 3 rfl ?_
  refine r_iload (pc := 4) C dX11_wetAtBest_4 4 rfl ?_
  refine r_aload_n (pc := 6) C dX11_wetAtBest_6 0 rfl ?_
  refine r_iload_n (pc := 7) C dX11_wetAtBest_7 1 rfl ?_
  refine r_iload_n (pc := 8) C dX11_wetAtBest_8 2 rfl ?_
  refine r_iload_n (pc := 9) C dX11_wetAtBest_9 3 rfl ?_
  refine r_iload (pc := 10) C dX11_wetAtBest_10 4 rfl ?_
  obtain ⟨o_v0, h⟩ := h
  refine r_callVi0 (pc := 12) C (rest := [.int v4, .int v3, .int v2, .int v1, .ref v0]) (a := v0) o_v0 [.int v1, .int v2, .int v3, .int v4] yV_X11_bestOf g_1627 (c_X11_bestOf h) dX11_wetAtBest_12 rfl rfl (Nat.le_of_ble_eq_true rfl) ⟨by decide, by decide⟩ ⟨by decide, by decide⟩ ⟨rfl, rfl⟩ (fun x3 S1 h g2 => ?_)
  have h := h g2
  have o_v0 := gr_ob g2 o_v0
  refine r_callVl0 (pc := 15) C (rest := []) (a := v0) o_v0 [.int v1, .int v2, .int v3, .int v4, .int x3] yV_X11_wetOf g_1594 (c_X11_wetOf h) dX11_wetAtBest_15 rfl rfl (Nat.le_of_ble_eq_true rfl) ⟨by decide, by decide⟩ ⟨by decide, by decide⟩ ⟨rfl, rfl⟩ (fun x6 S4 h g5 => ?_)
  have h := h g5
  have o_v0 := gr_ob g5 o_v0
  exact r_lret (pc := 18) C E ht dX11_wetAtBest_18 (by decide) (by decide) h
def P_X11_wetAtBest (v0 : Nat) (v1 : Int32) (v2 : Int32) (v3 : Int32) (v4 : Int32) (Q : Int64 → HS → Prop) (S : HS) : Prop := P_X11_wetAtBest_0 Q v0 v1 v2 v3 v4 S
theorem c_X11_wetAtBest {l : Launch} {Ee : EE} {S : HS} {v0 : Nat} {v1 : Int32} {v2 : Int32} {v3 : Int32} {v4 : Int32} {Q : Int64 → HS → Prop} (h : P_X11_wetAtBest v0 v1 v2 v3 v4 Q S) : MJ l yX11_wetAtBest cX11_wetAtBest 5 (some .long) rm_X11_wetAtBest Ee S [.ref v0, .int v1, .int v2, .int v3, .int v4] Q :=
  openJ (by decide) (Nat.le_of_ble_eq_true rfl) (fun X C E ht hn hE hl => by subst hE; exact r_sub [0, 1, 2, 3, 4] rfl (T_X11_wetAtBest_0 C E ht hn h))
def rm_X11_driest : Room := { frames := 8, cells := 0, slots := 0, locals := 213 }
def P_X11_driest_30 (Q : Int32 → HS → Prop) (v0 : Nat) (S : HS) : Prop := ob S v0 11 ∧ (P_X11_refused v0 (1 : Int32) (fun x3 S1 => Gr S S1 → (Q x3 S1)) S)
set_option maxRecDepth 20000 in
set_option maxHeartbeats 4000000 in
theorem T_X11_driest_30 {X : CX} {Q : Int32 → HS → Prop} (C : Cx X cX11_driest RX11 10 rm_X11_driest) (E : ReI X rm_X11_driest Q) (ht : (xh X).sig.returnType = (some .int)) (hn : (xh X).name = yX11_driest.name) {v0 : Nat} {S : HS} (h : P_X11_driest_30 Q v0 S) : WS X 10 0 0 30 [(0, .ref v0)] [] S := by
  refine r_aload_n (pc := 30) C dX11_driest_30 0 rfl ?_
  refine r_iconst (pc := 31) C (v := (1 : Int32)) dX11_driest_31 (by decide) ?_
  obtain ⟨o_v0, h⟩ := h
  refine r_callVi0 (pc := 32) C (rest := []) (a := v0) o_v0 [.int (1 : Int32)] yV_X11_refused g_1250 (c_X11_refused h) dX11_driest_32 rfl rfl (Nat.le_of_ble_eq_true rfl) ⟨by decide, by decide⟩ ⟨by decide, by decide⟩ ⟨rfl, rfl⟩ (fun x3 S1 h g2 => ?_)
  have h := h g2
  have o_v0 := gr_ob g2 o_v0
  exact r_iret (pc := 35) C E ht dX11_driest_35 (by decide) (by decide) h
def P_X11_driest_105 (Q : Int32 → HS → Prop) (X45 : Nat → Int32 → Int32 → Int32 → Int32 → Int64 → Int32 → HS → Prop) (v0 : Nat) (v1 : Int32) (v2 : Int32) (v3 : Int32) (v4 : Int32) (v5 : Int64) (v7 : Int32) (S : HS) : Prop := ∀ x1 : Int32, x1 = v7 + (1 : Int32) → (X45 v0 v1 v2 v3 v4 v5 x1 S)
set_option maxRecDepth 20000 in
set_option maxHeartbeats 4000000 in
theorem T_X11_driest_105 {X : CX} {Q : Int32 → HS → Prop} (C : Cx X cX11_driest RX11 10 rm_X11_driest) (E : ReI X rm_X11_driest Q) (ht : (xh X).sig.returnType = (some .int)) (hn : (xh X).name = yX11_driest.name) {X45 : Nat → Int32 → Int32 → Int32 → Int32 → Int64 → Int32 → HS → Prop} (hX45 : ∀ (v0 : Nat) (v1 : Int32) (v2 : Int32) (v3 : Int32) (v4 : Int32) (v5 : Int64) (v7 : Int32) (S : HS), X45 v0 v1 v2 v3 v4 v5 v7 S → WS X 10 0 0 45 [(0, .ref v0), (1, .int v1), (2, .int v2), (3, .int v3), (4, .int v4), (5, .long v5), (7, .int v7)] [] S) {v0 : Nat} {v1 : Int32} {v2 : Int32} {v3 : Int32} {v4 : Int32} {v5 : Int64} {v7 : Int32} {S : HS} (h : P_X11_driest_105 Q X45 v0 v1 v2 v3 v4 v5 v7 S) : WS X 10 0 0 105 [(0, .ref v0), (1, .int v1), (2, .int v2), (3, .int v3), (4, .int v4), (5, .long v5), (7, .int v7)] [] S := by
  obtain ⟨x1, ex1⟩ : ∃ z : Int32, z = v7 + (1 : Int32) := ⟨_, rfl⟩
  have h := h x1 ex1
  refine r_iinc (pc := 105) C (v := x1) (lv' := [(7, .int x1), (0, .ref v0), (1, .int v1), (2, .int v2), (3, .int v3), (4, .int v4), (5, .long v5)]) dX11_driest_105 6 rfl ex1.symm (by decide) rfl ?_
  refine r_goto (pc := 108) C (tgt := 45) dX11_driest_108 (by decide) ?_
  exact r_sub [1, 2, 3, 4, 5, 6, 0] rfl (hX45 v0 v1 v2 v3 v4 v5 x1 S h)
def P_X11_driest_97 (Q : Int32 → HS → Prop) (X45 : Nat → Int32 → Int32 → Int32 → Int32 → Int64 → Int32 → HS → Prop) (v0 : Nat) (v1 : Int32) (v2 : Int32) (v3 : Int32) (v7 : Int32) (v8 : Int64) (S : HS) : Prop := P_X11_driest_105 Q X45 v0 v1 v2 v3 v7 v8 v7 S
set_option maxRecDepth 20000 in
set_option maxHeartbeats 4000000 in
theorem T_X11_driest_97 {X : CX} {Q : Int32 → HS → Prop} (C : Cx X cX11_driest RX11 10 rm_X11_driest) (E : ReI X rm_X11_driest Q) (ht : (xh X).sig.returnType = (some .int)) (hn : (xh X).name = yX11_driest.name) {X45 : Nat → Int32 → Int32 → Int32 → Int32 → Int64 → Int32 → HS → Prop} (hX45 : ∀ (v0 : Nat) (v1 : Int32) (v2 : Int32) (v3 : Int32) (v4 : Int32) (v5 : Int64) (v7 : Int32) (S : HS), X45 v0 v1 v2 v3 v4 v5 v7 S → WS X 10 0 0 45 [(0, .ref v0), (1, .int v1), (2, .int v2), (3, .int v3), (4, .int v4), (5, .long v5), (7, .int v7)] [] S) {v0 : Nat} {v1 : Int32} {v2 : Int32} {v3 : Int32} {v7 : Int32} {v8 : Int64} {S : HS} (h : P_X11_driest_97 Q X45 v0 v1 v2 v3 v7 v8 S) : WS X 10 0 0 97 [(0, .ref v0), (1, .int v1), (2, .int v2), (3, .int v3), (7, .int v7), (8, .long v8)] [] S := by
  refine r_iload (pc := 97) C dX11_driest_97 4 rfl ?_
  refine r_istore (pc := 99) C dX11_driest_99 (by decide) (lv' := [(4, .int v7), (0, .ref v0), (1, .int v1), (2, .int v2), (3, .int v3), (7, .int v7), (8, .long v8)]) rfl ?_
  refine r_lload (pc := 101) C dX11_driest_101 6 rfl ?_
  refine r_lstore (pc := 103) C dX11_driest_103 (by decide) (lv' := [(5, .long v8), (4, .int v7), (0, .ref v0), (1, .int v1), (2, .int v2), (3, .int v3), (7, .int v7), (8, .long v8)]) rfl ?_
  exact r_sub [2, 3, 4, 5, 1, 0, 6] rfl (T_X11_driest_105 C E ht hn hX45 h)
def B_X11_driest_45 (Q : Int32 → HS → Prop) (X45 : Nat → Int32 → Int32 → Int32 → Int32 → Int64 → Int32 → HS → Prop) (v0 : Nat) (v1 : Int32) (v2 : Int32) (v3 : Int32) (v4 : Int32) (v5 : Int64) (v7 : Int32) (S : HS) : Prop := ob S v0 11 ∧ (∃ a1 : Nat, fR S v0 3 = some a1 ∧ (ob S a1 10 ∧ (∀ x2 : Int32, x2 = fI S a1 1 → (((x2 ≤ v7) → (((¬ v4 = (-1 : Int32)) → (P_X11_good v0 v4 (fun x7 S5 => Gr S S5 → (Q x7 S5)) S)) ∧ ((v4 = (-1 : Int32)) → (P_X11_refused v0 (6 : Int32) (fun x10 S8 => Gr S S8 → (Q x10 S8)) S)))) ∧ ((¬ x2 ≤ v7) → (P_X11_wetAtBest v0 v1 v2 v3 v7 (fun x13 S11 => Gr S S11 → (∃ a14 : Nat, fR S11 v0 3 = some a14 ∧ (ob S11 a14 10 ∧ (∃ a15 : Nat, fR S11 a14 11 = some a15 ∧ (ob S11 a15 13 ∧ (vp_in v7 (hN S11 a15) ∧ ∀ x17 : Int32, x17 = fI S11 a15 v7.toNatClampNeg → (∀ x18 : Int64, x18 = x13 * x17.toInt64 → (((v4 = (-1 : Int32)) → (P_X11_driest_97 Q X45 v0 v1 v2 v3 v7 x18 S11)) ∧ ((¬ v4 = (-1 : Int32)) → ((((lg_cmp x18 v5) < 0) → (P_X11_driest_97 Q X45 v0 v1 v2 v3 v7 x18 S11)) ∧ ((¬ (lg_cmp x18 v5) < 0) → (P_X11_driest_105 Q X45 v0 v1 v2 v3 v4 v5 v7 S11)))))))))))) S))))))
def P_X11_driest_45 (Q : Int32 → HS → Prop) (v0 : Nat) (v1 : Int32) (v2 : Int32) (v3 : Int32) (v4 : Int32) (v5 : Int64) (v7 : Int32) (S : HS) : Prop := ∀ X45 : Nat → Int32 → Int32 → Int32 → Int32 → Int64 → Int32 → HS → Prop, (∀ (v0 : Nat) (v1 : Int32) (v2 : Int32) (v3 : Int32) (v4 : Int32) (v5 : Int64) (v7 : Int32) (S : HS), B_X11_driest_45 Q X45 v0 v1 v2 v3 v4 v5 v7 S → X45 v0 v1 v2 v3 v4 v5 v7 S) → X45 v0 v1 v2 v3 v4 v5 v7 S
set_option maxRecDepth 20000 in
set_option maxHeartbeats 4000000 in
theorem TB_X11_driest_45 {X : CX} {Q : Int32 → HS → Prop} (C : Cx X cX11_driest RX11 10 rm_X11_driest) (E : ReI X rm_X11_driest Q) (ht : (xh X).sig.returnType = (some .int)) (hn : (xh X).name = yX11_driest.name) {X45 : Nat → Int32 → Int32 → Int32 → Int32 → Int64 → Int32 → HS → Prop} (hX45 : ∀ (v0 : Nat) (v1 : Int32) (v2 : Int32) (v3 : Int32) (v4 : Int32) (v5 : Int64) (v7 : Int32) (S : HS), X45 v0 v1 v2 v3 v4 v5 v7 S → WS X 10 0 0 45 [(0, .ref v0), (1, .int v1), (2, .int v2), (3, .int v3), (4, .int v4), (5, .long v5), (7, .int v7)] [] S) {v0 : Nat} {v1 : Int32} {v2 : Int32} {v3 : Int32} {v4 : Int32} {v5 : Int64} {v7 : Int32} {S : HS} (h : B_X11_driest_45 Q X45 v0 v1 v2 v3 v4 v5 v7 S) : WS X 10 0 0 45 [(0, .ref v0), (1, .int v1), (2, .int v2), (3, .int v3), (4, .int v4), (5, .long v5), (7, .int v7)] [] S := by
  refine r_iload (pc := 45) C dX11_driest_45 6 rfl ?_
  refine r_aload_n (pc := 47) C dX11_driest_47 0 rfl ?_
  obtain ⟨o_v0, h⟩ := h
  obtain ⟨a1, ea1, h⟩ := h
  refine r_getr (pc := 48) C fL_X11_338 dX11_driest_48 o_v0 ea1 ?_
  obtain ⟨o_a1, h⟩ := h
  refine r_getNi (pc := 51) C fN_X11_219 dX11_driest_51 o_a1 ?_
  refine r_topi (fun x2 ex2 => ?_)
  have h := h x2 ex2
  refine r_icmp_ge (pc := 54) C (tgt := 111) dX11_driest_54 (by decide) (fun c3 => ?_) (fun c3 => ?_)
  · have h := h.1 c3
    refine r_iload (pc := 111) C dX11_driest_111 4 rfl ?_
    refine r_iconst (pc := 113) C (v := (-1 : Int32)) dX11_driest_113 (by decide) ?_
    refine r_icmp_ne (pc := 114) C (tgt := 126) dX11_driest_114 (by decide) (fun c4 => ?_) (fun c4 => ?_)
    · have h := h.1 c4
      refine r_aload_n (pc := 126) C dX11_driest_126 0 rfl ?_
      refine r_iload (pc := 127) C dX11_driest_127 4 rfl ?_
      refine r_callVi0 (pc := 129) C (rest := []) (a := v0) o_v0 [.int v4] yV_X11_good g_1518 (c_X11_good h) dX11_driest_129 rfl rfl (Nat.le_of_ble_eq_true rfl) ⟨by decide, by decide⟩ ⟨by decide, by decide⟩ ⟨rfl, rfl⟩ (fun x7 S5 h g6 => ?_)
      have h := h g6
      have o_a1 := gr_ob g6 o_a1
      have o_v0 := gr_ob g6 o_v0
      exact r_iret (pc := 132) C E ht dX11_driest_132 (by decide) (by decide) h
    · have h := h.2 c4
      refine r_aload_n (pc := 117) C dX11_driest_117 0 rfl ?_
      refine r_bipush (pc := 118) C (v := (6 : Int32)) dX11_driest_118 (by decide) ?_
      refine r_callVi0 (pc := 120) C (rest := []) (a := v0) o_v0 [.int (6 : Int32)] yV_X11_refused g_1250 (c_X11_refused h) dX11_driest_120 rfl rfl (Nat.le_of_ble_eq_true rfl) ⟨by decide, by decide⟩ ⟨by decide, by decide⟩ ⟨rfl, rfl⟩ (fun x10 S8 h g9 => ?_)
      have h := h g9
      have o_a1 := gr_ob g9 o_a1
      have o_v0 := gr_ob g9 o_v0
      refine r_goto (pc := 123) C (tgt := 132) dX11_driest_123 (by decide) ?_
      exact r_iret (pc := 132) C E ht dX11_driest_132 (by decide) (by decide) h
  · have h := h.2 c3
    refine r_aload_n (pc := 57) C dX11_driest_57 0 rfl ?_
    refine r_iload_n (pc := 58) C dX11_driest_58 1 rfl ?_
    refine r_iload_n (pc := 59) C dX11_driest_59 2 rfl ?_
    refine r_iload_n (pc := 60) C dX11_driest_60 3 rfl ?_
    refine r_iload (pc := 61) C dX11_driest_61 6 rfl ?_
    refine r_callVl0 (pc := 63) C (rest := []) (a := v0) o_v0 [.int v1, .int v2, .int v3, .int v7] yV_X11_wetAtBest g_1647 (c_X11_wetAtBest h) dX11_driest_63 rfl rfl (Nat.le_of_ble_eq_true rfl) ⟨by decide, by decide⟩ ⟨by decide, by decide⟩ ⟨rfl, rfl⟩ (fun x13 S11 h g12 => ?_)
    have h := h g12
    have o_a1 := gr_ob g12 o_a1
    have o_v0 := gr_ob g12 o_v0
    refine r_aload_n (pc := 66) C dX11_driest_66 0 rfl ?_
    obtain ⟨a14, ea14, h⟩ := h
    refine r_getr (pc := 67) C fL_X11_338 dX11_driest_67 o_v0 ea14 ?_
    obtain ⟨o_a14, h⟩ := h
    obtain ⟨a15, ea15, h⟩ := h
    refine r_getNr (pc := 70) C fN_X11_246 dX11_driest_70 o_a14 ea15 ?_
    refine r_iload (pc := 73) C dX11_driest_73 6 rfl ?_
    obtain ⟨o_a15, h⟩ := h
    obtain ⟨i16, h⟩ := h
    refine r_iald (pc := 75) C dX11_driest_75 o_a15 i16 ?_
    refine r_topi (fun x17 ex17 => ?_)
    have h := h x17 ex17
    refine r_i2l (pc := 76) C dX11_driest_76 ?_
    refine r_lmul (pc := 77) C dX11_driest_77 ?_
    refine r_topl (fun x18 ex18 => ?_)
    have h := h x18 ex18
    refine r_lstore (pc := 78) C dX11_driest_78 (by decide) (lv' := [(8, .long x18), (0, .ref v0), (1, .int v1), (2, .int v2), (3, .int v3), (4, .int v4), (5, .long v5), (7, .int v7)]) rfl ?_
    refine r_iload (pc := 80) C dX11_driest_80 5 rfl ?_
    refine r_iconst (pc := 82) C (v := (-1 : Int32)) dX11_driest_82 (by decide) ?_
    refine r_icmp_eq (pc := 83) C (tgt := 97) dX11_driest_83 (by decide) (fun c19 => ?_) (fun c19 => ?_)
    · have h := h.1 c19
      exact r_sub [1, 2, 3, 4, 7, 0] rfl (T_X11_driest_97 C E ht hn hX45 h)
    · have h := h.2 c19
      refine r_lload (pc := 86) C dX11_driest_86 0 rfl ?_
      refine r_lload (pc := 88) C dX11_driest_88 6 rfl ?_
      refine r_lcmp (pc := 90) C dX11_driest_90 ?_
      refine r_if_lt (pc := 91) C (tgt := 97) dX11_driest_91 (by decide) (fun c20 => ?_) (fun c20 => ?_)
      · have h := h.1 c20
        exact r_sub [1, 2, 3, 4, 7, 0] rfl (T_X11_driest_97 C E ht hn hX45 h)
      · have h := h.2 c20
        refine r_goto (pc := 94) C (tgt := 105) dX11_driest_94 (by decide) ?_
        exact r_sub [1, 2, 3, 4, 5, 6, 7] rfl (T_X11_driest_105 C E ht hn hX45 h)
theorem T_X11_driest_45 {X : CX} {Q : Int32 → HS → Prop} (C : Cx X cX11_driest RX11 10 rm_X11_driest) (E : ReI X rm_X11_driest Q) (ht : (xh X).sig.returnType = (some .int)) (hn : (xh X).name = yX11_driest.name) {v0 : Nat} {v1 : Int32} {v2 : Int32} {v3 : Int32} {v4 : Int32} {v5 : Int64} {v7 : Int32} {S : HS} (h : P_X11_driest_45 Q v0 v1 v2 v3 v4 v5 v7 S) : WS X 10 0 0 45 [(0, .ref v0), (1, .int v1), (2, .int v2), (3, .int v3), (4, .int v4), (5, .long v5), (7, .int v7)] [] S :=
  h (fun v0 v1 v2 v3 v4 v5 v7 S => WS X 10 0 0 45 [(0, .ref v0), (1, .int v1), (2, .int v2), (3, .int v3), (4, .int v4), (5, .long v5), (7, .int v7)] [] S) (fun v0 v1 v2 v3 v4 v5 v7 S hh => TB_X11_driest_45 C E ht hn (fun v0 v1 v2 v3 v4 v5 v7 S z => z) hh)
def P_X11_driest_0 (Q : Int32 → HS → Prop) (v0 : Nat) (v1 : Int32) (v2 : Int32) (v3 : Int32) (S : HS) : Prop := ob S v0 11 ∧ (∀ S1 : HS, S1 = sI S v0 0 (0 : Int32) → (P_X11_isWalker v0 v1 (fun x4 S2 => Gr S1 S2 → bl x4 → (((x4 = 0) → (P_X11_driest_30 Q v0 S2)) ∧ ((¬ x4 = 0) → (P_X11_isRoad v0 v2 (fun x8 S6 => Gr S2 S6 → bl x8 → (((x8 = 0) → (P_X11_driest_30 Q v0 S6)) ∧ ((¬ x8 = 0) → (P_X11_in v3 (0 : Int32) (1 : Int32) (fun x12 S10 => Gr S6 S10 → bl x12 → (((¬ x12 = 0) → (P_X11_driest_45 Q v0 v1 v2 v3 (-1 : Int32) (0 : Int64) (0 : Int32) S10)) ∧ ((x12 = 0) → (P_X11_driest_30 Q v0 S10)))) S6)))) S2)))) S1))
set_option maxRecDepth 20000 in
set_option maxHeartbeats 4000000 in
theorem T_X11_driest_0 {X : CX} {Q : Int32 → HS → Prop} (C : Cx X cX11_driest RX11 10 rm_X11_driest) (E : ReI X rm_X11_driest Q) (ht : (xh X).sig.returnType = (some .int)) (hn : (xh X).name = yX11_driest.name) {v0 : Nat} {v1 : Int32} {v2 : Int32} {v3 : Int32} {S : HS} (h : P_X11_driest_0 Q v0 v1 v2 v3 S) : WS X 10 0 0 0 [(0, .ref v0), (1, .int v1), (2, .int v2), (3, .int v3)] [] S := by
  refine r_aload_n (pc := 0) C dX11_driest_0 0 rfl ?_
  refine r_iconst (pc := 1) C (v := (0 : Int32)) dX11_driest_1 (by decide) ?_
  obtain ⟨o_v0, h⟩ := h
  refine r_puti (pc := 2) C pfL_X11_40 dX11_driest_2 o_v0 ?_
  refine r_heap (fun S1 eS1 => ?_)
  have h := h S1 eS1
  have o_v0 := ob_I eS1 o_v0
  refine r_aload_n (pc := 5) C dX11_driest_5 0 rfl ?_
  refine r_iload_n (pc := 6) C dX11_driest_6 1 rfl ?_
  refine r_callVi0 (pc := 7) C (rest := []) (a := v0) o_v0 [.int v1] yV_X11_isWalker g_1538 (c_X11_isWalker h) dX11_driest_7 rfl rfl (Nat.le_of_ble_eq_true rfl) ⟨by decide, by decide⟩ ⟨by decide, by decide⟩ ⟨rfl, rfl⟩ (fun x4 S2 h g3 => ?_)
  have bx4 := h.1
  have h := h.2 g3 bx4
  have o_v0 := gr_ob g3 o_v0
  refine r_if_eq (pc := 10) C (tgt := 30) dX11_driest_10 (by decide) (fun c5 => ?_) (fun c5 => ?_)
  · have h := h.1 c5
    exact r_sub [0] rfl (T_X11_driest_30 C E ht hn h)
  · have h := h.2 c5
    refine r_aload_n (pc := 13) C dX11_driest_13 0 rfl ?_
    refine r_iload_n (pc := 14) C dX11_driest_14 2 rfl ?_
    refine r_callVi0 (pc := 15) C (rest := []) (a := v0) o_v0 [.int v2] yV_X11_isRoad g_1542 (c_X11_isRoad h) dX11_driest_15 rfl rfl (Nat.le_of_ble_eq_true rfl) ⟨by decide, by decide⟩ ⟨by decide, by decide⟩ ⟨rfl, rfl⟩ (fun x8 S6 h g7 => ?_)
    have bx8 := h.1
    have h := h.2 g7 bx8
    have o_v0 := gr_ob g7 o_v0
    refine r_if_eq (pc := 18) C (tgt := 30) dX11_driest_18 (by decide) (fun c9 => ?_) (fun c9 => ?_)
    · have h := h.1 c9
      exact r_sub [0] rfl (T_X11_driest_30 C E ht hn h)
    · have h := h.2 c9
      refine r_iload_n (pc := 21) C dX11_driest_21 3 rfl ?_
      refine r_iconst (pc := 22) C (v := (0 : Int32)) dX11_driest_22 (by decide) ?_
      refine r_iconst (pc := 23) C (v := (1 : Int32)) dX11_driest_23 (by decide) ?_
      refine r_callSi0 (pc := 24) C (rest := []) rfl [.int v3, .int (0 : Int32), .int (1 : Int32)] yS_X11_in g_1434 (c_X11_in h) dX11_driest_24 rfl rfl (Nat.le_of_ble_eq_true rfl) ⟨by decide, by decide⟩ ⟨by decide, by decide⟩ ⟨rfl, rfl⟩ (fun x12 S10 h g11 => ?_)
      have bx12 := h.1
      have h := h.2 g11 bx12
      have o_v0 := gr_ob g11 o_v0
      refine r_if_ne (pc := 27) C (tgt := 36) dX11_driest_27 (by decide) (fun c13 => ?_) (fun c13 => ?_)
      · have h := h.1 c13
        refine r_iconst (pc := 36) C (v := (-1 : Int32)) dX11_driest_36 (by decide) ?_
        refine r_istore (pc := 37) C dX11_driest_37 (by decide) (lv' := [(4, .int (-1 : Int32)), (0, .ref v0), (1, .int v1), (2, .int v2), (3, .int v3)]) rfl ?_
        refine r_lconst (pc := 39) C (v := (0 : Int64)) dX11_driest_39 (by decide) ?_
        refine r_lstore (pc := 40) C dX11_driest_40 (by decide) (lv' := [(5, .long (0 : Int64)), (4, .int (-1 : Int32)), (0, .ref v0), (1, .int v1), (2, .int v2), (3, .int v3)]) rfl ?_
        refine r_iconst (pc := 42) C (v := (0 : Int32)) dX11_driest_42 (by decide) ?_
        refine r_istore (pc := 43) C dX11_driest_43 (by decide) (lv' := [(7, .int (0 : Int32)), (5, .long (0 : Int64)), (4, .int (-1 : Int32)), (0, .ref v0), (1, .int v1), (2, .int v2), (3, .int v3)]) rfl ?_
        exact r_sub [3, 4, 5, 6, 2, 1, 0] rfl (T_X11_driest_45 C E ht hn h)
      · have h := h.2 c13
        exact r_sub [0] rfl (T_X11_driest_30 C E ht hn h)
def P_X11_driest (v0 : Nat) (v1 : Int32) (v2 : Int32) (v3 : Int32) (Q : Int32 → HS → Prop) (S : HS) : Prop := P_X11_driest_0 Q v0 v1 v2 v3 S
theorem c_X11_driest {l : Launch} {Ee : EE} {S : HS} {v0 : Nat} {v1 : Int32} {v2 : Int32} {v3 : Int32} {Q : Int32 → HS → Prop} (h : P_X11_driest v0 v1 v2 v3 Q S) : MI l yX11_driest cX11_driest 10 (some .int) rm_X11_driest Ee S [.ref v0, .int v1, .int v2, .int v3] Q :=
  openI (by decide) (Nat.le_of_ble_eq_true rfl) (fun X C E ht hn hE hl => by subst hE; exact r_sub [0, 1, 2, 3] rfl (T_X11_driest_0 C E ht hn h))
def rm_X11_drips : Room := { frames := 1, cells := 0, slots := 0, locals := 21 }
def P_X11_drips_0 (Q : Int64 → HS → Prop) (v0 : Nat) (v1 : Int32) (v2 : Int32) (S : HS) : Prop := ob S v0 11 ∧ (∃ a1 : Nat, fR S v0 3 = some a1 ∧ (ob S a1 10 ∧ (∃ a2 : Nat, fR S a1 12 = some a2 ∧ (ob S a2 13 ∧ (vp_in v2 (hN S a2) ∧ ∀ x4 : Int32, x4 = fI S a2 v2.toNatClampNeg → (∃ a5 : Nat, fR S v0 3 = some a5 ∧ (ob S a5 10 ∧ (∃ a6 : Nat, fR S a5 21 = some a6 ∧ (ob S a6 13 ∧ (vp_in v1 (hN S a6) ∧ ∀ x8 : Int32, x8 = fI S a6 v1.toNatClampNeg → (∃ a9 : Nat, fR S v0 3 = some a9 ∧ (ob S a9 10 ∧ (P_X10_shield a9 v1 (fun x12 S10 => Gr S S10 → (P_X11_less x8 x12 (fun x15 S13 => Gr S10 S13 → (Q ((x4.toInt64 * x15.toInt64) * (2520 : Int64)) S13)) S10)) S)))))))))))))
set_option maxRecDepth 20000 in
set_option maxHeartbeats 4000000 in
theorem T_X11_drips_0 {X : CX} {Q : Int64 → HS → Prop} (C : Cx X cX11_drips RX11 3 rm_X11_drips) (E : ReJ X rm_X11_drips Q) (ht : (xh X).sig.returnType = (some .long)) (hn : (xh X).name = yX11_drips.name) {v0 : Nat} {v1 : Int32} {v2 : Int32} {S : HS} (h : P_X11_drips_0 Q v0 v1 v2 S) : WS X 3 0 0 0 [(0, .ref v0), (1, .int v1), (2, .int v2)] [] S := by
  refine r_aload_n (pc := 0) C dX11_drips_0 0 rfl ?_
  obtain ⟨o_v0, h⟩ := h
  obtain ⟨a1, ea1, h⟩ := h
  refine r_getr (pc := 1) C fL_X11_338 dX11_drips_1 o_v0 ea1 ?_
  obtain ⟨o_a1, h⟩ := h
  obtain ⟨a2, ea2, h⟩ := h
  refine r_getNr (pc := 4) C fN_X11_262 dX11_drips_4 o_a1 ea2 ?_
  refine r_iload_n (pc := 7) C dX11_drips_7 2 rfl ?_
  obtain ⟨o_a2, h⟩ := h
  obtain ⟨i3, h⟩ := h
  refine r_iald (pc := 8) C dX11_drips_8 o_a2 i3 ?_
  refine r_topi (fun x4 ex4 => ?_)
  have h := h x4 ex4
  refine r_i2l (pc := 9) C dX11_drips_9 ?_
  refine r_aload_n (pc := 10) C dX11_drips_10 0 rfl ?_
  obtain ⟨a5, ea5, h⟩ := h
  refine r_getr (pc := 11) C fL_X11_338 dX11_drips_11 o_v0 ea5 ?_
  obtain ⟨o_a5, h⟩ := h
  obtain ⟨a6, ea6, h⟩ := h
  refine r_getNr (pc := 14) C fN_X11_308 dX11_drips_14 o_a5 ea6 ?_
  refine r_iload_n (pc := 17) C dX11_drips_17 1 rfl ?_
  obtain ⟨o_a6, h⟩ := h
  obtain ⟨i7, h⟩ := h
  refine r_iald (pc := 18) C dX11_drips_18 o_a6 i7 ?_
  refine r_topi (fun x8 ex8 => ?_)
  have h := h x8 ex8
  refine r_aload_n (pc := 19) C dX11_drips_19 0 rfl ?_
  obtain ⟨a9, ea9, h⟩ := h
  refine r_getr (pc := 20) C fL_X11_338 dX11_drips_20 o_v0 ea9 ?_
  refine r_iload_n (pc := 23) C dX11_drips_23 1 rfl ?_
  obtain ⟨o_a9, h⟩ := h
  refine r_callVi0 (pc := 24) C (rest := [.int x8, .long x4.toInt64]) (a := a9) o_a9 [.int v1] yV_X10_shield g_1578 (c_X10_shield h) dX11_drips_24 rfl rfl (Nat.le_of_ble_eq_true rfl) ⟨by decide, by decide⟩ ⟨by decide, by decide⟩ ⟨rfl, rfl⟩ (fun x12 S10 h g11 => ?_)
  have h := h g11
  have o_a1 := gr_ob g11 o_a1
  have o_a2 := gr_ob g11 o_a2
  have o_a5 := gr_ob g11 o_a5
  have o_a6 := gr_ob g11 o_a6
  have o_a9 := gr_ob g11 o_a9
  have o_v0 := gr_ob g11 o_v0
  refine r_callSi0 (pc := 27) C (rest := [.long x4.toInt64]) rfl [.int x8, .int x12] yS_X11_less g_1582 (c_X11_less h) dX11_drips_27 rfl rfl (Nat.le_of_ble_eq_true rfl) ⟨by decide, by decide⟩ ⟨by decide, by decide⟩ ⟨rfl, rfl⟩ (fun x15 S13 h g14 => ?_)
  have h := h g14
  have o_a1 := gr_ob g14 o_a1
  have o_a2 := gr_ob g14 o_a2
  have o_a5 := gr_ob g14 o_a5
  have o_a6 := gr_ob g14 o_a6
  have o_a9 := gr_ob g14 o_a9
  have o_v0 := gr_ob g14 o_v0
  refine r_i2l (pc := 30) C dX11_drips_30 ?_
  refine r_lmul (pc := 31) C dX11_drips_31 ?_
  refine r_ldc2 (pc := 32) C (v := (2520 : Int64)) dX11_drips_32 g_1585 ?_
  refine r_lmul (pc := 35) C dX11_drips_35 ?_
  exact r_lret (pc := 36) C E ht dX11_drips_36 (by decide) (by decide) h
def P_X11_drips (v0 : Nat) (v1 : Int32) (v2 : Int32) (Q : Int64 → HS → Prop) (S : HS) : Prop := P_X11_drips_0 Q v0 v1 v2 S
theorem c_X11_drips {l : Launch} {Ee : EE} {S : HS} {v0 : Nat} {v1 : Int32} {v2 : Int32} {Q : Int64 → HS → Prop} (h : P_X11_drips v0 v1 v2 Q S) : MJ l yX11_drips cX11_drips 3 (some .long) rm_X11_drips Ee S [.ref v0, .int v1, .int v2] Q :=
  openJ (by decide) (Nat.le_of_ble_eq_true rfl) (fun X C E ht hn hE hl => by subst hE; exact r_sub [0, 1, 2] rfl (T_X11_drips_0 C E ht hn h))
def rm_X11_eatsSign : Room := { frames := 2, cells := 0, slots := 0, locals := 43 }
def P_X11_eatsSign_21 (Q : Int32 → HS → Prop) (v0 : Nat) (s0 : Int32) (S : HS) : Prop := ((s0 = 0) → (bl s0 ∧ Q s0 S)) ∧ ((¬ s0 = 0) → (ob S v0 11 ∧ (P_X11_goesOn v0 (fun S2 => Gr S S2 → (bl s0 ∧ Q s0 S2)) S)))
set_option maxRecDepth 20000 in
set_option maxHeartbeats 4000000 in
theorem T_X11_eatsSign_21 {X : CX} {Q : Int32 → HS → Prop} (C : Cx X cX11_eatsSign RX11 3 rm_X11_eatsSign) (E : ReI X rm_X11_eatsSign (fun r S => bl r ∧ Q r S)) (ht : (xh X).sig.returnType = (some .boolean)) (hn : (xh X).name = yX11_eatsSign.name) {v0 : Nat} {s0 : Int32} {S : HS} (h : P_X11_eatsSign_21 Q v0 s0 S) : WS X 3 0 0 21 [(0, .ref v0)] [.int s0] S := by
  refine r_istore_n (pc := 21) C dX11_eatsSign_21 rfl (by decide) (lv' := [(2, .int s0), (0, .ref v0)]) rfl ?_
  refine r_iload_n (pc := 22) C dX11_eatsSign_22 0 rfl ?_
  refine r_if_eq (pc := 23) C (tgt := 30) dX11_eatsSign_23 (by decide) (fun c1 => ?_) (fun c1 => ?_)
  · have h := h.1 c1
    refine r_iload_n (pc := 30) C dX11_eatsSign_30 0 rfl ?_
    exact r_zret (pc := 31) C E ht dX11_eatsSign_31 (by decide) (by decide) h.1 h.2
  · have h := h.2 c1
    refine r_aload_n (pc := 26) C dX11_eatsSign_26 1 rfl ?_
    obtain ⟨o_v0, h⟩ := h
    refine r_callVv0 (pc := 27) C (rest := []) (a := v0) o_v0 [] yV_X11_goesOn g_1380 (c_X11_goesOn h) dX11_eatsSign_27 rfl rfl (Nat.le_of_ble_eq_true rfl) ⟨by decide, by decide⟩ ⟨by decide, by decide⟩ ⟨rfl, rfl⟩ (fun S2 h g3 => ?_)
    have h := h g3
    have o_v0 := gr_ob g3 o_v0
    refine r_iload_n (pc := 30) C dX11_eatsSign_30 0 rfl ?_
    exact r_zret (pc := 31) C E ht dX11_eatsSign_31 (by decide) (by decide) h.1 h.2
def P_X11_eatsSign_20 (Q : Int32 → HS → Prop) (v0 : Nat) (S : HS) : Prop := P_X11_eatsSign_21 Q v0 (0 : Int32) S
set_option maxRecDepth 20000 in
set_option maxHeartbeats 4000000 in
theorem T_X11_eatsSign_20 {X : CX} {Q : Int32 → HS → Prop} (C : Cx X cX11_eatsSign RX11 3 rm_X11_eatsSign) (E : ReI X rm_X11_eatsSign (fun r S => bl r ∧ Q r S)) (ht : (xh X).sig.returnType = (some .boolean)) (hn : (xh X).name = yX11_eatsSign.name) {v0 : Nat} {S : HS} (h : P_X11_eatsSign_20 Q v0 S) : WS X 3 0 0 20 [(0, .ref v0)] [] S := by
  refine r_iconst (pc := 20) C (v := (0 : Int32)) dX11_eatsSign_20 (by decide) ?_
  exact r_sub [0] rfl (T_X11_eatsSign_21 C E ht hn h)
def P_X11_eatsSign_0 (Q : Int32 → HS → Prop) (v0 : Nat) (v1 : Int32) (S : HS) : Prop := ob S v0 11 ∧ (∀ x1 : Int32, x1 = fI S v0 9 → (((¬ x1 = (4 : Int32)) → (P_X11_eatsSign_20 Q v0 S)) ∧ ((x1 = (4 : Int32)) → (∀ x3 : Int32, x3 = fI S v0 11 → (((¬ x3 = v1) → (P_X11_eatsSign_20 Q v0 S)) ∧ ((x3 = v1) → (P_X11_eatsSign_21 Q v0 (1 : Int32) S)))))))
set_option maxRecDepth 20000 in
set_option maxHeartbeats 4000000 in
theorem T_X11_eatsSign_0 {X : CX} {Q : Int32 → HS → Prop} (C : Cx X cX11_eatsSign RX11 3 rm_X11_eatsSign) (E : ReI X rm_X11_eatsSign (fun r S => bl r ∧ Q r S)) (ht : (xh X).sig.returnType = (some .boolean)) (hn : (xh X).name = yX11_eatsSign.name) {v0 : Nat} {v1 : Int32} {S : HS} (h : P_X11_eatsSign_0 Q v0 v1 S) : WS X 3 0 0 0 [(0, .ref v0), (1, .int v1)] [] S := by
  refine r_aload_n (pc := 0) C dX11_eatsSign_0 0 rfl ?_
  obtain ⟨o_v0, h⟩ := h
  refine r_geti (pc := 1) C fL_X11_68 dX11_eatsSign_1 o_v0 ?_
  refine r_topi (fun x1 ex1 => ?_)
  have h := h x1 ex1
  refine r_iconst (pc := 4) C (v := (4 : Int32)) dX11_eatsSign_4 (by decide) ?_
  refine r_icmp_ne (pc := 5) C (tgt := 20) dX11_eatsSign_5 (by decide) (fun c2 => ?_) (fun c2 => ?_)
  · have h := h.1 c2
    exact r_sub [0] rfl (T_X11_eatsSign_20 C E ht hn h)
  · have h := h.2 c2
    refine r_aload_n (pc := 8) C dX11_eatsSign_8 0 rfl ?_
    refine r_geti (pc := 9) C fL_X11_80 dX11_eatsSign_9 o_v0 ?_
    refine r_topi (fun x3 ex3 => ?_)
    have h := h x3 ex3
    refine r_iload_n (pc := 12) C dX11_eatsSign_12 1 rfl ?_
    refine r_icmp_ne (pc := 13) C (tgt := 20) dX11_eatsSign_13 (by decide) (fun c4 => ?_) (fun c4 => ?_)
    · have h := h.1 c4
      exact r_sub [0] rfl (T_X11_eatsSign_20 C E ht hn h)
    · have h := h.2 c4
      refine r_iconst (pc := 16) C (v := (1 : Int32)) dX11_eatsSign_16 (by decide) ?_
      refine r_goto (pc := 17) C (tgt := 21) dX11_eatsSign_17 (by decide) ?_
      exact r_sub [0] rfl (T_X11_eatsSign_21 C E ht hn h)
def P_X11_eatsSign (v0 : Nat) (v1 : Int32) (Q : Int32 → HS → Prop) (S : HS) : Prop := P_X11_eatsSign_0 Q v0 v1 S
theorem c_X11_eatsSign {l : Launch} {Ee : EE} {S : HS} {v0 : Nat} {v1 : Int32} {Q : Int32 → HS → Prop} (h : P_X11_eatsSign v0 v1 Q S) : MI l yX11_eatsSign cX11_eatsSign 3 (some .boolean) rm_X11_eatsSign Ee S [.ref v0, .int v1] (fun r S => bl r ∧ Q r S) :=
  openI (by decide) (Nat.le_of_ble_eq_true rfl) (fun X C E ht hn hE hl => by subst hE; exact r_sub [0, 1] rfl (T_X11_eatsSign_0 C E ht hn h))
def rm_X11_wordOf : Room := { frames := 5, cells := 0, slots := 0, locals := 120 }
def B_X11_wordOf_4 (Q : Int64 → HS → Prop) (X4 : Nat → Int64 → Int32 → HS → Prop) (v0 : Nat) (v1 : Int64) (v3 : Int32) (S : HS) : Prop := v0 < 54 ∧ ∀ x1 : Int32, x1 = nI (sLen.getD v0 0) → (((x1 ≤ v3) → (Q v1 S)) ∧ ((¬ x1 ≤ v3) → (v0 < 54 ∧ vp_in v3 (sLen.getD v0 0) ∧ ∀ x3 : Int32, x3 = sch v0 v3 → (∀ x4 : Int64, x4 = ((32 : Int64) * v1) + (((x3 - (97 : Int32)) + (1 : Int32)).toInt64) → (∀ x5 : Int32, x5 = v3 + (1 : Int32) → (X4 v0 x4 x5 S))))))
def P_X11_wordOf_4 (Q : Int64 → HS → Prop) (v0 : Nat) (v1 : Int64) (v3 : Int32) (S : HS) : Prop := ∀ X4 : Nat → Int64 → Int32 → HS → Prop, (∀ (v0 : Nat) (v1 : Int64) (v3 : Int32) (S : HS), B_X11_wordOf_4 Q X4 v0 v1 v3 S → X4 v0 v1 v3 S) → X4 v0 v1 v3 S
set_option maxRecDepth 20000 in
set_option maxHeartbeats 4000000 in
theorem TB_X11_wordOf_4 {X : CX} {Q : Int64 → HS → Prop} (C : Cx X cX11_wordOf RX11 4 rm_X11_wordOf) (E : ReJ X rm_X11_wordOf Q) (ht : (xh X).sig.returnType = (some .long)) (hn : (xh X).name = yX11_wordOf.name) {X4 : Nat → Int64 → Int32 → HS → Prop} (hX4 : ∀ (v0 : Nat) (v1 : Int64) (v3 : Int32) (S : HS), X4 v0 v1 v3 S → WS X 4 0 0 4 [(0, .ref (eK (xE X) v0)), (1, .long v1), (3, .int v3)] [] S) {v0 : Nat} {v1 : Int64} {v3 : Int32} {S : HS} (h : B_X11_wordOf_4 Q X4 v0 v1 v3 S) : WS X 4 0 0 4 [(0, .ref (eK (xE X) v0)), (1, .long v1), (3, .int v3)] [] S := by
  refine r_iload_n (pc := 4) C dX11_wordOf_4 2 rfl ?_
  refine r_aload_n (pc := 5) C dX11_wordOf_5 0 rfl ?_
  obtain ⟨hw, h⟩ := h
  refine r_slen (pc := 6) C g_1411 dX11_wordOf_6 hw (by decide) (by decide) (by decide) (by decide) (Nat.le_of_ble_eq_true rfl) ?_
  refine r_topi (fun x1 ex1 => ?_)
  have h := h x1 ex1
  refine r_icmp_ge (pc := 9) C (tgt := 36) dX11_wordOf_9 (by decide) (fun c2 => ?_) (fun c2 => ?_)
  · have h := h.1 c2
    refine r_lload_n (pc := 36) C dX11_wordOf_36 1 rfl ?_
    exact r_lret (pc := 37) C E ht dX11_wordOf_37 (by decide) (by decide) h
  · have h := h.2 c2
    refine r_ldc2 (pc := 12) C (v := (32 : Int64)) dX11_wordOf_12 g_1391 ?_
    refine r_lload_n (pc := 15) C dX11_wordOf_15 1 rfl ?_
    refine r_lmul (pc := 16) C dX11_wordOf_16 ?_
    refine r_aload_n (pc := 17) C dX11_wordOf_17 0 rfl ?_
    refine r_iload_n (pc := 18) C dX11_wordOf_18 2 rfl ?_
    obtain ⟨hw, hw2, h⟩ := h
    refine r_schar (pc := 19) C g_1412 dX11_wordOf_19 hw hw2 (by decide) (by decide) (by decide) (by decide) (Nat.le_of_ble_eq_true rfl) ?_
    refine r_topi (fun x3 ex3 => ?_)
    have h := h x3 ex3
    refine r_bipush (pc := 22) C (v := (97 : Int32)) dX11_wordOf_22 (by decide) ?_
    refine r_isub (pc := 24) C dX11_wordOf_24 ?_
    refine r_iconst (pc := 25) C (v := (1 : Int32)) dX11_wordOf_25 (by decide) ?_
    refine r_iadd (pc := 26) C dX11_wordOf_26 ?_
    refine r_i2l (pc := 27) C dX11_wordOf_27 ?_
    refine r_ladd (pc := 28) C dX11_wordOf_28 ?_
    refine r_topl (fun x4 ex4 => ?_)
    have h := h x4 ex4
    refine r_lstore_n (pc := 29) C dX11_wordOf_29 rfl (by decide) (lv' := [(1, .long x4), (0, .ref (eK (xE X) v0)), (3, .int v3)]) rfl ?_
    obtain ⟨x5, ex5⟩ : ∃ z : Int32, z = v3 + (1 : Int32) := ⟨_, rfl⟩
    have h := h x5 ex5
    refine r_iinc (pc := 30) C (v := x5) (lv' := [(3, .int x5), (1, .long x4), (0, .ref (eK (xE X) v0))]) dX11_wordOf_30 2 rfl ex5.symm (by decide) rfl ?_
    refine r_goto (pc := 33) C (tgt := 4) dX11_wordOf_33 (by decide) ?_
    exact r_sub [2, 1, 0] rfl (hX4 v0 x4 x5 S h)
theorem T_X11_wordOf_4 {X : CX} {Q : Int64 → HS → Prop} (C : Cx X cX11_wordOf RX11 4 rm_X11_wordOf) (E : ReJ X rm_X11_wordOf Q) (ht : (xh X).sig.returnType = (some .long)) (hn : (xh X).name = yX11_wordOf.name) {v0 : Nat} {v1 : Int64} {v3 : Int32} {S : HS} (h : P_X11_wordOf_4 Q v0 v1 v3 S) : WS X 4 0 0 4 [(0, .ref (eK (xE X) v0)), (1, .long v1), (3, .int v3)] [] S :=
  h (fun v0 v1 v3 S => WS X 4 0 0 4 [(0, .ref (eK (xE X) v0)), (1, .long v1), (3, .int v3)] [] S) (fun v0 v1 v3 S hh => TB_X11_wordOf_4 C E ht hn (fun v0 v1 v3 S z => z) hh)
def P_X11_wordOf_0 (Q : Int64 → HS → Prop) (v0 : Nat) (S : HS) : Prop := P_X11_wordOf_4 Q v0 (0 : Int64) (0 : Int32) S
set_option maxRecDepth 20000 in
set_option maxHeartbeats 4000000 in
theorem T_X11_wordOf_0 {X : CX} {Q : Int64 → HS → Prop} (C : Cx X cX11_wordOf RX11 4 rm_X11_wordOf) (E : ReJ X rm_X11_wordOf Q) (ht : (xh X).sig.returnType = (some .long)) (hn : (xh X).name = yX11_wordOf.name) {v0 : Nat} {S : HS} (h : P_X11_wordOf_0 Q v0 S) : WS X 4 0 0 0 [(0, .ref (eK (xE X) v0))] [] S := by
  refine r_lconst (pc := 0) C (v := (0 : Int64)) dX11_wordOf_0 (by decide) ?_
  refine r_lstore_n (pc := 1) C dX11_wordOf_1 rfl (by decide) (lv' := [(1, .long (0 : Int64)), (0, .ref (eK (xE X) v0))]) rfl ?_
  refine r_iconst (pc := 2) C (v := (0 : Int32)) dX11_wordOf_2 (by decide) ?_
  refine r_istore_n (pc := 3) C dX11_wordOf_3 rfl (by decide) (lv' := [(3, .int (0 : Int32)), (1, .long (0 : Int64)), (0, .ref (eK (xE X) v0))]) rfl ?_
  exact r_sub [2, 1, 0] rfl (T_X11_wordOf_4 C E ht hn h)
def P_X11_wordOf (v0 : Nat) (Q : Int64 → HS → Prop) (S : HS) : Prop := P_X11_wordOf_0 Q v0 S
theorem c_X11_wordOf {l : Launch} {Ee : EE} {S : HS} {v0 : Nat} {Q : Int64 → HS → Prop} (h : P_X11_wordOf v0 Q S) : MJ l yX11_wordOf cX11_wordOf 4 (some .long) rm_X11_wordOf Ee S [.ref (eK Ee v0)] Q :=
  openJ (by decide) (Nat.le_of_ble_eq_true rfl) (fun X C E ht hn hE hl => by subst hE; exact r_sub [0] rfl (T_X11_wordOf_0 C E ht hn h))
def rm_X11_isWord : Room := { frames := 6, cells := 0, slots := 0, locals := 143 }
def P_X11_isWord_0 (Q : Int32 → HS → Prop) (v0 : Nat) (v1 : Nat) (S : HS) : Prop := ob S v0 11 ∧ (∀ x1 : Int32, x1 = fI S v0 9 → (((¬ x1 = (2 : Int32)) → (Q (0 : Int32) S)) ∧ ((x1 = (2 : Int32)) → (∀ x3 : Int64, x3 = fJ S v0 15 → (P_X11_wordOf v1 (fun x6 S4 => Gr S S4 → (((¬ (lg_cmp x3 x6) = 0) → (Q (0 : Int32) S4)) ∧ (((lg_cmp x3 x6) = 0) → (Q (1 : Int32) S4)))) S)))))
set_option maxRecDepth 20000 in
set_option maxHeartbeats 4000000 in
theorem T_X11_isWord_0 {X : CX} {Q : Int32 → HS → Prop} (C : Cx X cX11_isWord RX11 2 rm_X11_isWord) (E : ReI X rm_X11_isWord (fun r S => bl r ∧ Q r S)) (ht : (xh X).sig.returnType = (some .boolean)) (hn : (xh X).name = yX11_isWord.name) {v0 : Nat} {v1 : Nat} {S : HS} (h : P_X11_isWord_0 Q v0 v1 S) : WS X 2 0 0 0 [(0, .ref v0), (1, .ref (eK (xE X) v1))] [] S := by
  refine r_aload_n (pc := 0) C dX11_isWord_0 0 rfl ?_
  obtain ⟨o_v0, h⟩ := h
  refine r_geti (pc := 1) C fL_X11_68 dX11_isWord_1 o_v0 ?_
  refine r_topi (fun x1 ex1 => ?_)
  have h := h x1 ex1
  refine r_iconst (pc := 4) C (v := (2 : Int32)) dX11_isWord_4 (by decide) ?_
  refine r_icmp_ne (pc := 5) C (tgt := 24) dX11_isWord_5 (by decide) (fun c2 => ?_) (fun c2 => ?_)
  · have h := h.1 c2
    refine r_iconst (pc := 24) C (v := (0 : Int32)) dX11_isWord_24 (by decide) ?_
    exact r_zret (pc := 25) C E ht dX11_isWord_25 (by decide) (by decide) (Or.inl rfl) h
  · have h := h.2 c2
    refine r_aload_n (pc := 8) C dX11_isWord_8 0 rfl ?_
    refine r_getl (pc := 9) C fL_X11_87 dX11_isWord_9 o_v0 ?_
    refine r_topl (fun x3 ex3 => ?_)
    have h := h x3 ex3
    refine r_aload_n (pc := 12) C dX11_isWord_12 1 rfl ?_
    refine r_callSl0 (pc := 13) C (rest := [.long x3]) rfl [.ref (eK (xE X) v1)] yS_X11_wordOf g_1408 (c_X11_wordOf h) dX11_isWord_13 rfl rfl (Nat.le_of_ble_eq_true rfl) ⟨by decide, by decide⟩ ⟨by decide, by decide⟩ ⟨rfl, rfl⟩ (fun x6 S4 h g5 => ?_)
    have h := h g5
    have o_v0 := gr_ob g5 o_v0
    refine r_lcmp (pc := 16) C dX11_isWord_16 ?_
    refine r_if_ne (pc := 17) C (tgt := 24) dX11_isWord_17 (by decide) (fun c7 => ?_) (fun c7 => ?_)
    · have h := h.1 c7
      refine r_iconst (pc := 24) C (v := (0 : Int32)) dX11_isWord_24 (by decide) ?_
      exact r_zret (pc := 25) C E ht dX11_isWord_25 (by decide) (by decide) (Or.inl rfl) h
    · have h := h.2 c7
      refine r_iconst (pc := 20) C (v := (1 : Int32)) dX11_isWord_20 (by decide) ?_
      refine r_goto (pc := 21) C (tgt := 25) dX11_isWord_21 (by decide) ?_
      exact r_zret (pc := 25) C E ht dX11_isWord_25 (by decide) (by decide) (Or.inr rfl) h
def P_X11_isWord (v0 : Nat) (v1 : Nat) (Q : Int32 → HS → Prop) (S : HS) : Prop := P_X11_isWord_0 Q v0 v1 S
theorem c_X11_isWord {l : Launch} {Ee : EE} {S : HS} {v0 : Nat} {v1 : Nat} {Q : Int32 → HS → Prop} (h : P_X11_isWord v0 v1 Q S) : MI l yX11_isWord cX11_isWord 2 (some .boolean) rm_X11_isWord Ee S [.ref v0, .ref (eK Ee v1)] (fun r S => bl r ∧ Q r S) :=
  openI (by decide) (Nat.le_of_ble_eq_true rfl) (fun X C E ht hn hE hl => by subst hE; exact r_sub [0, 1] rfl (T_X11_isWord_0 C E ht hn h))
def rm_X11_eatsWord : Room := { frames := 7, cells := 0, slots := 0, locals := 164 }
def P_X11_eatsWord_0 (Q : Int32 → HS → Prop) (v0 : Nat) (v1 : Nat) (S : HS) : Prop := ob S v0 11 ∧ (P_X11_isWord v0 v1 (fun x3 S1 => Gr S S1 → bl x3 → (((x3 = 0) → (bl x3 ∧ Q x3 S1)) ∧ ((¬ x3 = 0) → (P_X11_goesOn v0 (fun S5 => Gr S1 S5 → (bl x3 ∧ Q x3 S5)) S1)))) S)
set_option maxRecDepth 20000 in
set_option maxHeartbeats 4000000 in
theorem T_X11_eatsWord_0 {X : CX} {Q : Int32 → HS → Prop} (C : Cx X cX11_eatsWord RX11 3 rm_X11_eatsWord) (E : ReI X rm_X11_eatsWord (fun r S => bl r ∧ Q r S)) (ht : (xh X).sig.returnType = (some .boolean)) (hn : (xh X).name = yX11_eatsWord.name) {v0 : Nat} {v1 : Nat} {S : HS} (h : P_X11_eatsWord_0 Q v0 v1 S) : WS X 3 0 0 0 [(0, .ref v0), (1, .ref (eK (xE X) v1))] [] S := by
  refine r_aload_n (pc := 0) C dX11_eatsWord_0 0 rfl ?_
  refine r_aload_n (pc := 1) C dX11_eatsWord_1 1 rfl ?_
  obtain ⟨o_v0, h⟩ := h
  refine r_callVi0 (pc := 2) C (rest := []) (a := v0) o_v0 [.ref (eK (xE X) v1)] yV_X11_isWord g_1404 (c_X11_isWord h) dX11_eatsWord_2 rfl rfl (Nat.le_of_ble_eq_true rfl) ⟨by decide, by decide⟩ ⟨by decide, by decide⟩ ⟨rfl, rfl⟩ (fun x3 S1 h g2 => ?_)
  have bx3 := h.1
  have h := h.2 g2 bx3
  have o_v0 := gr_ob g2 o_v0
  refine r_istore_n (pc := 5) C dX11_eatsWord_5 rfl (by decide) (lv' := [(2, .int x3), (0, .ref v0), (1, .ref (eK (xE X) v1))]) rfl ?_
  refine r_iload_n (pc := 6) C dX11_eatsWord_6 0 rfl ?_
  refine r_if_eq (pc := 7) C (tgt := 14) dX11_eatsWord_7 (by decide) (fun c4 => ?_) (fun c4 => ?_)
  · have h := h.1 c4
    refine r_iload_n (pc := 14) C dX11_eatsWord_14 0 rfl ?_
    exact r_zret (pc := 15) C E ht dX11_eatsWord_15 (by decide) (by decide) h.1 h.2
  · have h := h.2 c4
    refine r_aload_n (pc := 10) C dX11_eatsWord_10 1 rfl ?_
    refine r_callVv0 (pc := 11) C (rest := []) (a := v0) o_v0 [] yV_X11_goesOn g_1380 (c_X11_goesOn h) dX11_eatsWord_11 rfl rfl (Nat.le_of_ble_eq_true rfl) ⟨by decide, by decide⟩ ⟨by decide, by decide⟩ ⟨rfl, rfl⟩ (fun S5 h g6 => ?_)
    have h := h g6
    have o_v0 := gr_ob g6 o_v0
    refine r_iload_n (pc := 14) C dX11_eatsWord_14 0 rfl ?_
    exact r_zret (pc := 15) C E ht dX11_eatsWord_15 (by decide) (by decide) h.1 h.2
def P_X11_eatsWord (v0 : Nat) (v1 : Nat) (Q : Int32 → HS → Prop) (S : HS) : Prop := P_X11_eatsWord_0 Q v0 v1 S
theorem c_X11_eatsWord {l : Launch} {Ee : EE} {S : HS} {v0 : Nat} {v1 : Nat} {Q : Int32 → HS → Prop} (h : P_X11_eatsWord v0 v1 Q S) : MI l yX11_eatsWord cX11_eatsWord 3 (some .boolean) rm_X11_eatsWord Ee S [.ref v0, .ref (eK Ee v1)] (fun r S => bl r ∧ Q r S) :=
  openI (by decide) (Nat.le_of_ble_eq_true rfl) (fun X C E ht hn hE hl => by subst hE; exact r_sub [0, 1] rfl (T_X11_eatsWord_0 C E ht hn h))
def rm_X11_even : Room := { frames := 6, cells := 0, slots := 0, locals := 163 }
def P_X11_even_39 (Q : Int32 → HS → Prop) (v0 : Nat) (S : HS) : Prop := ob S v0 11 ∧ (P_X11_refused v0 (1 : Int32) (fun x3 S1 => Gr S S1 → (Q x3 S1)) S)
set_option maxRecDepth 20000 in
set_option maxHeartbeats 4000000 in
theorem T_X11_even_39 {X : CX} {Q : Int32 → HS → Prop} (C : Cx X cX11_even RX11 7 rm_X11_even) (E : ReI X rm_X11_even Q) (ht : (xh X).sig.returnType = (some .int)) (hn : (xh X).name = yX11_even.name) {v0 : Nat} {S : HS} (h : P_X11_even_39 Q v0 S) : WS X 7 0 0 39 [(0, .ref v0)] [] S := by
  refine r_aload_n (pc := 39) C dX11_even_39 0 rfl ?_
  refine r_iconst (pc := 40) C (v := (1 : Int32)) dX11_even_40 (by decide) ?_
  obtain ⟨o_v0, h⟩ := h
  refine r_callVi0 (pc := 41) C (rest := []) (a := v0) o_v0 [.int (1 : Int32)] yV_X11_refused g_1250 (c_X11_refused h) dX11_even_41 rfl rfl (Nat.le_of_ble_eq_true rfl) ⟨by decide, by decide⟩ ⟨by decide, by decide⟩ ⟨rfl, rfl⟩ (fun x3 S1 h g2 => ?_)
  have h := h g2
  have o_v0 := gr_ob g2 o_v0
  exact r_iret (pc := 44) C E ht dX11_even_44 (by decide) (by decide) h
def P_X11_even_111 (Q : Int32 → HS → Prop) (X59 : Nat → Int32 → Int32 → Int32 → Int32 → Int32 → Int32 → HS → Prop) (v0 : Nat) (v1 : Int32) (v2 : Int32) (v3 : Int32) (v4 : Int32) (v6 : Int32) (s0 : Int32) (S : HS) : Prop := ∀ x1 : Int32, x1 = v6 + (1 : Int32) → (X59 v0 v1 v2 v3 v4 s0 x1 S)
set_option maxRecDepth 20000 in
set_option maxHeartbeats 4000000 in
theorem T_X11_even_111 {X : CX} {Q : Int32 → HS → Prop} (C : Cx X cX11_even RX11 7 rm_X11_even) (E : ReI X rm_X11_even Q) (ht : (xh X).sig.returnType = (some .int)) (hn : (xh X).name = yX11_even.name) {X59 : Nat → Int32 → Int32 → Int32 → Int32 → Int32 → Int32 → HS → Prop} (hX59 : ∀ (v0 : Nat) (v1 : Int32) (v2 : Int32) (v3 : Int32) (v4 : Int32) (v5 : Int32) (v6 : Int32) (S : HS), X59 v0 v1 v2 v3 v4 v5 v6 S → WS X 7 0 0 59 [(0, .ref v0), (1, .int v1), (2, .int v2), (3, .int v3), (4, .int v4), (5, .int v5), (6, .int v6)] [] S) {v0 : Nat} {v1 : Int32} {v2 : Int32} {v3 : Int32} {v4 : Int32} {v6 : Int32} {s0 : Int32} {S : HS} (h : P_X11_even_111 Q X59 v0 v1 v2 v3 v4 v6 s0 S) : WS X 7 0 0 111 [(0, .ref v0), (1, .int v1), (2, .int v2), (3, .int v3), (4, .int v4), (6, .int v6)] [.int s0] S := by
  refine r_istore (pc := 111) C dX11_even_111 (by decide) (lv' := [(5, .int s0), (0, .ref v0), (1, .int v1), (2, .int v2), (3, .int v3), (4, .int v4), (6, .int v6)]) rfl ?_
  obtain ⟨x1, ex1⟩ : ∃ z : Int32, z = v6 + (1 : Int32) := ⟨_, rfl⟩
  have h := h x1 ex1
  refine r_iinc (pc := 113) C (v := x1) (lv' := [(6, .int x1), (5, .int s0), (0, .ref v0), (1, .int v1), (2, .int v2), (3, .int v3), (4, .int v4)]) dX11_even_113 6 rfl ex1.symm (by decide) rfl ?_
  refine r_goto (pc := 116) C (tgt := 59) dX11_even_116 (by decide) ?_
  exact r_sub [2, 3, 4, 5, 6, 1, 0] rfl (hX59 v0 v1 v2 v3 v4 s0 x1 S h)
def P_X11_even_110 (Q : Int32 → HS → Prop) (X59 : Nat → Int32 → Int32 → Int32 → Int32 → Int32 → Int32 → HS → Prop) (v0 : Nat) (v1 : Int32) (v2 : Int32) (v3 : Int32) (v4 : Int32) (v6 : Int32) (S : HS) : Prop := P_X11_even_111 Q X59 v0 v1 v2 v3 v4 v6 (0 : Int32) S
set_option maxRecDepth 20000 in
set_option maxHeartbeats 4000000 in
theorem T_X11_even_110 {X : CX} {Q : Int32 → HS → Prop} (C : Cx X cX11_even RX11 7 rm_X11_even) (E : ReI X rm_X11_even Q) (ht : (xh X).sig.returnType = (some .int)) (hn : (xh X).name = yX11_even.name) {X59 : Nat → Int32 → Int32 → Int32 → Int32 → Int32 → Int32 → HS → Prop} (hX59 : ∀ (v0 : Nat) (v1 : Int32) (v2 : Int32) (v3 : Int32) (v4 : Int32) (v5 : Int32) (v6 : Int32) (S : HS), X59 v0 v1 v2 v3 v4 v5 v6 S → WS X 7 0 0 59 [(0, .ref v0), (1, .int v1), (2, .int v2), (3, .int v3), (4, .int v4), (5, .int v5), (6, .int v6)] [] S) {v0 : Nat} {v1 : Int32} {v2 : Int32} {v3 : Int32} {v4 : Int32} {v6 : Int32} {S : HS} (h : P_X11_even_110 Q X59 v0 v1 v2 v3 v4 v6 S) : WS X 7 0 0 110 [(0, .ref v0), (1, .int v1), (2, .int v2), (3, .int v3), (4, .int v4), (6, .int v6)] [] S := by
  refine r_iconst (pc := 110) C (v := (0 : Int32)) dX11_even_110 (by decide) ?_
  exact r_sub [0, 1, 2, 3, 4, 5] rfl (T_X11_even_111 C E ht hn hX59 h)
def P_X11_even_130 (Q : Int32 → HS → Prop) (s0 : Nat) (s1 : Int32) (S : HS) : Prop := ob S s0 11 ∧ (P_X11_good s0 s1 (fun x3 S1 => Gr S S1 → (Q x3 S1)) S)
set_option maxRecDepth 20000 in
set_option maxHeartbeats 4000000 in
theorem T_X11_even_130 {X : CX} {Q : Int32 → HS → Prop} (C : Cx X cX11_even RX11 7 rm_X11_even) (E : ReI X rm_X11_even Q) (ht : (xh X).sig.returnType = (some .int)) (hn : (xh X).name = yX11_even.name) {s0 : Nat} {s1 : Int32} {S : HS} (h : P_X11_even_130 Q s0 s1 S) : WS X 7 0 0 130 [] [.int s1, .ref s0] S := by
  obtain ⟨o_s0, h⟩ := h
  refine r_callVi0 (pc := 130) C (rest := []) (a := s0) o_s0 [.int s1] yV_X11_good g_1518 (c_X11_good h) dX11_even_130 rfl rfl (Nat.le_of_ble_eq_true rfl) ⟨by decide, by decide⟩ ⟨by decide, by decide⟩ ⟨rfl, rfl⟩ (fun x3 S1 h g2 => ?_)
  have h := h g2
  have o_s0 := gr_ob g2 o_s0
  exact r_iret (pc := 133) C E ht dX11_even_133 (by decide) (by decide) h
def B_X11_even_59 (Q : Int32 → HS → Prop) (X59 : Nat → Int32 → Int32 → Int32 → Int32 → Int32 → Int32 → HS → Prop) (v0 : Nat) (v1 : Int32) (v2 : Int32) (v3 : Int32) (v4 : Int32) (v5 : Int32) (v6 : Int32) (S : HS) : Prop := ob S v0 11 ∧ (∃ a1 : Nat, fR S v0 3 = some a1 ∧ (ob S a1 10 ∧ (∃ a2 : Nat, fR S a1 25 = some a2 ∧ (ob S a2 13 ∧ (vp_in v1 (hN S a2) ∧ ∀ x4 : Int32, x4 = fI S a2 v1.toNatClampNeg → (((x4 ≤ v6) → (((v5 = 0) → (P_X11_even_130 Q v0 (0 : Int32) S)) ∧ ((¬ v5 = 0) → (P_X11_even_130 Q v0 (1 : Int32) S)))) ∧ ((¬ x4 ≤ v6) → (((v5 = 0) → (P_X11_even_110 Q X59 v0 v1 v2 v3 v4 v6 S)) ∧ ((¬ v5 = 0) → (P_X11_wetOf v0 v1 v2 v3 v4 v6 (fun x10 S8 => Gr S S8 → (P_X11_wetOf v0 v1 v2 v3 v4 (v6 + (1 : Int32)) (fun x13 S11 => Gr S8 S11 → (((¬ (lg_cmp x10 x13) = 0) → (P_X11_even_110 Q X59 v0 v1 v2 v3 v4 v6 S11)) ∧ (((lg_cmp x10 x13) = 0) → (P_X11_even_111 Q X59 v0 v1 v2 v3 v4 v6 (1 : Int32) S11)))) S8)) S))))))))))
def P_X11_even_59 (Q : Int32 → HS → Prop) (v0 : Nat) (v1 : Int32) (v2 : Int32) (v3 : Int32) (v4 : Int32) (v5 : Int32) (v6 : Int32) (S : HS) : Prop := ∀ X59 : Nat → Int32 → Int32 → Int32 → Int32 → Int32 → Int32 → HS → Prop, (∀ (v0 : Nat) (v1 : Int32) (v2 : Int32) (v3 : Int32) (v4 : Int32) (v5 : Int32) (v6 : Int32) (S : HS), B_X11_even_59 Q X59 v0 v1 v2 v3 v4 v5 v6 S → X59 v0 v1 v2 v3 v4 v5 v6 S) → X59 v0 v1 v2 v3 v4 v5 v6 S
set_option maxRecDepth 20000 in
set_option maxHeartbeats 4000000 in
theorem TB_X11_even_59 {X : CX} {Q : Int32 → HS → Prop} (C : Cx X cX11_even RX11 7 rm_X11_even) (E : ReI X rm_X11_even Q) (ht : (xh X).sig.returnType = (some .int)) (hn : (xh X).name = yX11_even.name) {X59 : Nat → Int32 → Int32 → Int32 → Int32 → Int32 → Int32 → HS → Prop} (hX59 : ∀ (v0 : Nat) (v1 : Int32) (v2 : Int32) (v3 : Int32) (v4 : Int32) (v5 : Int32) (v6 : Int32) (S : HS), X59 v0 v1 v2 v3 v4 v5 v6 S → WS X 7 0 0 59 [(0, .ref v0), (1, .int v1), (2, .int v2), (3, .int v3), (4, .int v4), (5, .int v5), (6, .int v6)] [] S) {v0 : Nat} {v1 : Int32} {v2 : Int32} {v3 : Int32} {v4 : Int32} {v5 : Int32} {v6 : Int32} {S : HS} (h : B_X11_even_59 Q X59 v0 v1 v2 v3 v4 v5 v6 S) : WS X 7 0 0 59 [(0, .ref v0), (1, .int v1), (2, .int v2), (3, .int v3), (4, .int v4), (5, .int v5), (6, .int v6)] [] S := by
  refine r_iload (pc := 59) C dX11_even_59 6 rfl ?_
  refine r_aload_n (pc := 61) C dX11_even_61 0 rfl ?_
  obtain ⟨o_v0, h⟩ := h
  obtain ⟨a1, ea1, h⟩ := h
  refine r_getr (pc := 62) C fL_X11_338 dX11_even_62 o_v0 ea1 ?_
  obtain ⟨o_a1, h⟩ := h
  obtain ⟨a2, ea2, h⟩ := h
  refine r_getNr (pc := 65) C fN_X11_320 dX11_even_65 o_a1 ea2 ?_
  refine r_iload_n (pc := 68) C dX11_even_68 1 rfl ?_
  obtain ⟨o_a2, h⟩ := h
  obtain ⟨i3, h⟩ := h
  refine r_iald (pc := 69) C dX11_even_69 o_a2 i3 ?_
  refine r_topi (fun x4 ex4 => ?_)
  have h := h x4 ex4
  refine r_icmp_ge (pc := 70) C (tgt := 119) dX11_even_70 (by decide) (fun c5 => ?_) (fun c5 => ?_)
  · have h := h.1 c5
    refine r_aload_n (pc := 119) C dX11_even_119 0 rfl ?_
    refine r_iload (pc := 120) C dX11_even_120 5 rfl ?_
    refine r_if_eq (pc := 122) C (tgt := 129) dX11_even_122 (by decide) (fun c6 => ?_) (fun c6 => ?_)
    · have h := h.1 c6
      refine r_iconst (pc := 129) C (v := (0 : Int32)) dX11_even_129 (by decide) ?_
      exact r_sub [] rfl (T_X11_even_130 C E ht hn h)
    · have h := h.2 c6
      refine r_iconst (pc := 125) C (v := (1 : Int32)) dX11_even_125 (by decide) ?_
      refine r_goto (pc := 126) C (tgt := 130) dX11_even_126 (by decide) ?_
      exact r_sub [] rfl (T_X11_even_130 C E ht hn h)
  · have h := h.2 c5
    refine r_iload (pc := 73) C dX11_even_73 5 rfl ?_
    refine r_if_eq (pc := 75) C (tgt := 110) dX11_even_75 (by decide) (fun c7 => ?_) (fun c7 => ?_)
    · have h := h.1 c7
      exact r_sub [0, 1, 2, 3, 4, 6] rfl (T_X11_even_110 C E ht hn hX59 h)
    · have h := h.2 c7
      refine r_aload_n (pc := 78) C dX11_even_78 0 rfl ?_
      refine r_iload_n (pc := 79) C dX11_even_79 1 rfl ?_
      refine r_iload_n (pc := 80) C dX11_even_80 2 rfl ?_
      refine r_iload_n (pc := 81) C dX11_even_81 3 rfl ?_
      refine r_iload (pc := 82) C dX11_even_82 4 rfl ?_
      refine r_iload (pc := 84) C dX11_even_84 6 rfl ?_
      refine r_callVl0 (pc := 86) C (rest := []) (a := v0) o_v0 [.int v1, .int v2, .int v3, .int v4, .int v6] yV_X11_wetOf g_1594 (c_X11_wetOf h) dX11_even_86 rfl rfl (Nat.le_of_ble_eq_true rfl) ⟨by decide, by decide⟩ ⟨by decide, by decide⟩ ⟨rfl, rfl⟩ (fun x10 S8 h g9 => ?_)
      have h := h g9
      have o_a1 := gr_ob g9 o_a1
      have o_a2 := gr_ob g9 o_a2
      have o_v0 := gr_ob g9 o_v0
      refine r_aload_n (pc := 89) C dX11_even_89 0 rfl ?_
      refine r_iload_n (pc := 90) C dX11_even_90 1 rfl ?_
      refine r_iload_n (pc := 91) C dX11_even_91 2 rfl ?_
      refine r_iload_n (pc := 92) C dX11_even_92 3 rfl ?_
      refine r_iload (pc := 93) C dX11_even_93 4 rfl ?_
      refine r_iload (pc := 95) C dX11_even_95 6 rfl ?_
      refine r_iconst (pc := 97) C (v := (1 : Int32)) dX11_even_97 (by decide) ?_
      refine r_iadd (pc := 98) C dX11_even_98 ?_
      refine r_callVl0 (pc := 99) C (rest := [.long x10]) (a := v0) o_v0 [.int v1, .int v2, .int v3, .int v4, .int (v6 + (1 : Int32))] yV_X11_wetOf g_1594 (c_X11_wetOf h) dX11_even_99 rfl rfl (Nat.le_of_ble_eq_true rfl) ⟨by decide, by decide⟩ ⟨by decide, by decide⟩ ⟨rfl, rfl⟩ (fun x13 S11 h g12 => ?_)
      have h := h g12
      have o_a1 := gr_ob g12 o_a1
      have o_a2 := gr_ob g12 o_a2
      have o_v0 := gr_ob g12 o_v0
      refine r_lcmp (pc := 102) C dX11_even_102 ?_
      refine r_if_ne (pc := 103) C (tgt := 110) dX11_even_103 (by decide) (fun c14 => ?_) (fun c14 => ?_)
      · have h := h.1 c14
        exact r_sub [0, 1, 2, 3, 4, 6] rfl (T_X11_even_110 C E ht hn hX59 h)
      · have h := h.2 c14
        refine r_iconst (pc := 106) C (v := (1 : Int32)) dX11_even_106 (by decide) ?_
        refine r_goto (pc := 107) C (tgt := 111) dX11_even_107 (by decide) ?_
        exact r_sub [0, 1, 2, 3, 4, 6] rfl (T_X11_even_111 C E ht hn hX59 h)
theorem T_X11_even_59 {X : CX} {Q : Int32 → HS → Prop} (C : Cx X cX11_even RX11 7 rm_X11_even) (E : ReI X rm_X11_even Q) (ht : (xh X).sig.returnType = (some .int)) (hn : (xh X).name = yX11_even.name) {v0 : Nat} {v1 : Int32} {v2 : Int32} {v3 : Int32} {v4 : Int32} {v5 : Int32} {v6 : Int32} {S : HS} (h : P_X11_even_59 Q v0 v1 v2 v3 v4 v5 v6 S) : WS X 7 0 0 59 [(0, .ref v0), (1, .int v1), (2, .int v2), (3, .int v3), (4, .int v4), (5, .int v5), (6, .int v6)] [] S :=
  h (fun v0 v1 v2 v3 v4 v5 v6 S => WS X 7 0 0 59 [(0, .ref v0), (1, .int v1), (2, .int v2), (3, .int v3), (4, .int v4), (5, .int v5), (6, .int v6)] [] S) (fun v0 v1 v2 v3 v4 v5 v6 S hh => TB_X11_even_59 C E ht hn (fun v0 v1 v2 v3 v4 v5 v6 S z => z) hh)
def P_X11_even_0 (Q : Int32 → HS → Prop) (v0 : Nat) (v1 : Int32) (v2 : Int32) (v3 : Int32) (v4 : Int32) (S : HS) : Prop := ob S v0 11 ∧ (∀ S1 : HS, S1 = sI S v0 0 (0 : Int32) → (P_X11_isWalker v0 v1 (fun x4 S2 => Gr S1 S2 → bl x4 → (((x4 = 0) → (P_X11_even_39 Q v0 S2)) ∧ ((¬ x4 = 0) → (P_X11_isRoad v0 v2 (fun x8 S6 => Gr S2 S6 → bl x8 → (((x8 = 0) → (P_X11_even_39 Q v0 S6)) ∧ ((¬ x8 = 0) → (P_X11_in v3 (0 : Int32) (1 : Int32) (fun x12 S10 => Gr S6 S10 → bl x12 → (((x12 = 0) → (P_X11_even_39 Q v0 S10)) ∧ ((¬ x12 = 0) → (P_X11_isHour v0 v4 (fun x16 S14 => Gr S10 S14 → bl x16 → (((¬ x16 = 0) → (∃ a18 : Nat, fR S14 v0 3 = some a18 ∧ (ob S14 a18 10 ∧ (∃ a19 : Nat, fR S14 a18 24 = some a19 ∧ (ob S14 a19 13 ∧ (vp_in v1 (hN S14 a19) ∧ ∀ x21 : Int32, x21 = fI S14 a19 v1.toNatClampNeg → (P_X11_even_59 Q v0 v1 v2 v3 v4 (1 : Int32) x21 S14))))))) ∧ ((x16 = 0) → (P_X11_even_39 Q v0 S14)))) S10)))) S6)))) S2)))) S1))
set_option maxRecDepth 20000 in
set_option maxHeartbeats 4000000 in
theorem T_X11_even_0 {X : CX} {Q : Int32 → HS → Prop} (C : Cx X cX11_even RX11 7 rm_X11_even) (E : ReI X rm_X11_even Q) (ht : (xh X).sig.returnType = (some .int)) (hn : (xh X).name = yX11_even.name) {v0 : Nat} {v1 : Int32} {v2 : Int32} {v3 : Int32} {v4 : Int32} {S : HS} (h : P_X11_even_0 Q v0 v1 v2 v3 v4 S) : WS X 7 0 0 0 [(0, .ref v0), (1, .int v1), (2, .int v2), (3, .int v3), (4, .int v4)] [] S := by
  refine r_aload_n (pc := 0) C dX11_even_0 0 rfl ?_
  refine r_iconst (pc := 1) C (v := (0 : Int32)) dX11_even_1 (by decide) ?_
  obtain ⟨o_v0, h⟩ := h
  refine r_puti (pc := 2) C pfL_X11_40 dX11_even_2 o_v0 ?_
  refine r_heap (fun S1 eS1 => ?_)
  have h := h S1 eS1
  have o_v0 := ob_I eS1 o_v0
  refine r_aload_n (pc := 5) C dX11_even_5 0 rfl ?_
  refine r_iload_n (pc := 6) C dX11_even_6 1 rfl ?_
  refine r_callVi0 (pc := 7) C (rest := []) (a := v0) o_v0 [.int v1] yV_X11_isWalker g_1538 (c_X11_isWalker h) dX11_even_7 rfl rfl (Nat.le_of_ble_eq_true rfl) ⟨by decide, by decide⟩ ⟨by decide, by decide⟩ ⟨rfl, rfl⟩ (fun x4 S2 h g3 => ?_)
  have bx4 := h.1
  have h := h.2 g3 bx4
  have o_v0 := gr_ob g3 o_v0
  refine r_if_eq (pc := 10) C (tgt := 39) dX11_even_10 (by decide) (fun c5 => ?_) (fun c5 => ?_)
  · have h := h.1 c5
    exact r_sub [0] rfl (T_X11_even_39 C E ht hn h)
  · have h := h.2 c5
    refine r_aload_n (pc := 13) C dX11_even_13 0 rfl ?_
    refine r_iload_n (pc := 14) C dX11_even_14 2 rfl ?_
    refine r_callVi0 (pc := 15) C (rest := []) (a := v0) o_v0 [.int v2] yV_X11_isRoad g_1542 (c_X11_isRoad h) dX11_even_15 rfl rfl (Nat.le_of_ble_eq_true rfl) ⟨by decide, by decide⟩ ⟨by decide, by decide⟩ ⟨rfl, rfl⟩ (fun x8 S6 h g7 => ?_)
    have bx8 := h.1
    have h := h.2 g7 bx8
    have o_v0 := gr_ob g7 o_v0
    refine r_if_eq (pc := 18) C (tgt := 39) dX11_even_18 (by decide) (fun c9 => ?_) (fun c9 => ?_)
    · have h := h.1 c9
      exact r_sub [0] rfl (T_X11_even_39 C E ht hn h)
    · have h := h.2 c9
      refine r_iload_n (pc := 21) C dX11_even_21 3 rfl ?_
      refine r_iconst (pc := 22) C (v := (0 : Int32)) dX11_even_22 (by decide) ?_
      refine r_iconst (pc := 23) C (v := (1 : Int32)) dX11_even_23 (by decide) ?_
      refine r_callSi0 (pc := 24) C (rest := []) rfl [.int v3, .int (0 : Int32), .int (1 : Int32)] yS_X11_in g_1434 (c_X11_in h) dX11_even_24 rfl rfl (Nat.le_of_ble_eq_true rfl) ⟨by decide, by decide⟩ ⟨by decide, by decide⟩ ⟨rfl, rfl⟩ (fun x12 S10 h g11 => ?_)
      have bx12 := h.1
      have h := h.2 g11 bx12
      have o_v0 := gr_ob g11 o_v0
      refine r_if_eq (pc := 27) C (tgt := 39) dX11_even_27 (by decide) (fun c13 => ?_) (fun c13 => ?_)
      · have h := h.1 c13
        exact r_sub [0] rfl (T_X11_even_39 C E ht hn h)
      · have h := h.2 c13
        refine r_aload_n (pc := 30) C dX11_even_30 0 rfl ?_
        refine r_iload (pc := 31) C dX11_even_31 4 rfl ?_
        refine r_callVi0 (pc := 33) C (rest := []) (a := v0) o_v0 [.int v4] yV_X11_isHour g_1546 (c_X11_isHour h) dX11_even_33 rfl rfl (Nat.le_of_ble_eq_true rfl) ⟨by decide, by decide⟩ ⟨by decide, by decide⟩ ⟨rfl, rfl⟩ (fun x16 S14 h g15 => ?_)
        have bx16 := h.1
        have h := h.2 g15 bx16
        have o_v0 := gr_ob g15 o_v0
        refine r_if_ne (pc := 36) C (tgt := 45) dX11_even_36 (by decide) (fun c17 => ?_) (fun c17 => ?_)
        · have h := h.1 c17
          refine r_iconst (pc := 45) C (v := (1 : Int32)) dX11_even_45 (by decide) ?_
          refine r_istore (pc := 46) C dX11_even_46 (by decide) (lv' := [(5, .int (1 : Int32)), (0, .ref v0), (1, .int v1), (2, .int v2), (3, .int v3), (4, .int v4)]) rfl ?_
          refine r_aload_n (pc := 48) C dX11_even_48 1 rfl ?_
          obtain ⟨a18, ea18, h⟩ := h
          refine r_getr (pc := 49) C fL_X11_338 dX11_even_49 o_v0 ea18 ?_
          obtain ⟨o_a18, h⟩ := h
          obtain ⟨a19, ea19, h⟩ := h
          refine r_getNr (pc := 52) C fN_X11_317 dX11_even_52 o_a18 ea19 ?_
          refine r_iload_n (pc := 55) C dX11_even_55 2 rfl ?_
          obtain ⟨o_a19, h⟩ := h
          obtain ⟨i20, h⟩ := h
          refine r_iald (pc := 56) C dX11_even_56 o_a19 i20 ?_
          refine r_topi (fun x21 ex21 => ?_)
          have h := h x21 ex21
          refine r_istore (pc := 57) C dX11_even_57 (by decide) (lv' := [(6, .int x21), (5, .int (1 : Int32)), (0, .ref v0), (1, .int v1), (2, .int v2), (3, .int v3), (4, .int v4)]) rfl ?_
          exact r_sub [2, 3, 4, 5, 6, 1, 0] rfl (T_X11_even_59 C E ht hn h)
        · have h := h.2 c17
          exact r_sub [0] rfl (T_X11_even_39 C E ht hn h)
def P_X11_even (v0 : Nat) (v1 : Int32) (v2 : Int32) (v3 : Int32) (v4 : Int32) (Q : Int32 → HS → Prop) (S : HS) : Prop := P_X11_even_0 Q v0 v1 v2 v3 v4 S
theorem c_X11_even {l : Launch} {Ee : EE} {S : HS} {v0 : Nat} {v1 : Int32} {v2 : Int32} {v3 : Int32} {v4 : Int32} {Q : Int32 → HS → Prop} (h : P_X11_even v0 v1 v2 v3 v4 Q S) : MI l yX11_even cX11_even 7 (some .int) rm_X11_even Ee S [.ref v0, .int v1, .int v2, .int v3, .int v4] Q :=
  openI (by decide) (Nat.le_of_ble_eq_true rfl) (fun X C E ht hn hE hl => by subst hE; exact r_sub [0, 1, 2, 3, 4] rfl (T_X11_even_0 C E ht hn h))
def rm_X11_isSpeed : Room := { frames := 1, cells := 0, slots := 0, locals := 22 }
def P_X11_isSpeed_0 (Q : Int32 → HS → Prop) (v0 : Nat) (v1 : Int32) (v2 : Int32) (S : HS) : Prop := ob S v0 11 ∧ (∃ a1 : Nat, fR S v0 3 = some a1 ∧ (ob S a1 10 ∧ (∃ a2 : Nat, fR S a1 24 = some a2 ∧ (ob S a2 13 ∧ (vp_in v1 (hN S a2) ∧ ∀ x4 : Int32, x4 = fI S a2 v1.toNatClampNeg → (∃ a5 : Nat, fR S v0 3 = some a5 ∧ (ob S a5 10 ∧ (∃ a6 : Nat, fR S a5 25 = some a6 ∧ (ob S a6 13 ∧ (vp_in v1 (hN S a6) ∧ ∀ x8 : Int32, x8 = fI S a6 v1.toNatClampNeg → (P_X11_in v2 x4 x8 (fun x11 S9 => Gr S S9 → bl x11 → (bl x11 ∧ Q x11 S9)) S)))))))))))
set_option maxRecDepth 20000 in
set_option maxHeartbeats 4000000 in
theorem T_X11_isSpeed_0 {X : CX} {Q : Int32 → HS → Prop} (C : Cx X cX11_isSpeed RX11 3 rm_X11_isSpeed) (E : ReI X rm_X11_isSpeed (fun r S => bl r ∧ Q r S)) (ht : (xh X).sig.returnType = (some .boolean)) (hn : (xh X).name = yX11_isSpeed.name) {v0 : Nat} {v1 : Int32} {v2 : Int32} {S : HS} (h : P_X11_isSpeed_0 Q v0 v1 v2 S) : WS X 3 0 0 0 [(0, .ref v0), (1, .int v1), (2, .int v2)] [] S := by
  refine r_iload_n (pc := 0) C dX11_isSpeed_0 2 rfl ?_
  refine r_aload_n (pc := 1) C dX11_isSpeed_1 0 rfl ?_
  obtain ⟨o_v0, h⟩ := h
  obtain ⟨a1, ea1, h⟩ := h
  refine r_getr (pc := 2) C fL_X11_338 dX11_isSpeed_2 o_v0 ea1 ?_
  obtain ⟨o_a1, h⟩ := h
  obtain ⟨a2, ea2, h⟩ := h
  refine r_getNr (pc := 5) C fN_X11_317 dX11_isSpeed_5 o_a1 ea2 ?_
  refine r_iload_n (pc := 8) C dX11_isSpeed_8 1 rfl ?_
  obtain ⟨o_a2, h⟩ := h
  obtain ⟨i3, h⟩ := h
  refine r_iald (pc := 9) C dX11_isSpeed_9 o_a2 i3 ?_
  refine r_topi (fun x4 ex4 => ?_)
  have h := h x4 ex4
  refine r_aload_n (pc := 10) C dX11_isSpeed_10 0 rfl ?_
  obtain ⟨a5, ea5, h⟩ := h
  refine r_getr (pc := 11) C fL_X11_338 dX11_isSpeed_11 o_v0 ea5 ?_
  obtain ⟨o_a5, h⟩ := h
  obtain ⟨a6, ea6, h⟩ := h
  refine r_getNr (pc := 14) C fN_X11_320 dX11_isSpeed_14 o_a5 ea6 ?_
  refine r_iload_n (pc := 17) C dX11_isSpeed_17 1 rfl ?_
  obtain ⟨o_a6, h⟩ := h
  obtain ⟨i7, h⟩ := h
  refine r_iald (pc := 18) C dX11_isSpeed_18 o_a6 i7 ?_
  refine r_topi (fun x8 ex8 => ?_)
  have h := h x8 ex8
  refine r_callSi0 (pc := 19) C (rest := []) rfl [.int v2, .int x4, .int x8] yS_X11_in g_1434 (c_X11_in h) dX11_isSpeed_19 rfl rfl (Nat.le_of_ble_eq_true rfl) ⟨by decide, by decide⟩ ⟨by decide, by decide⟩ ⟨rfl, rfl⟩ (fun x11 S9 h g10 => ?_)
  have bx11 := h.1
  have h := h.2 g10 bx11
  have o_a1 := gr_ob g10 o_a1
  have o_a2 := gr_ob g10 o_a2
  have o_a5 := gr_ob g10 o_a5
  have o_a6 := gr_ob g10 o_a6
  have o_v0 := gr_ob g10 o_v0
  exact r_zret (pc := 22) C E ht dX11_isSpeed_22 (by decide) (by decide) h.1 h.2
def P_X11_isSpeed (v0 : Nat) (v1 : Int32) (v2 : Int32) (Q : Int32 → HS → Prop) (S : HS) : Prop := P_X11_isSpeed_0 Q v0 v1 v2 S
theorem c_X11_isSpeed {l : Launch} {Ee : EE} {S : HS} {v0 : Nat} {v1 : Int32} {v2 : Int32} {Q : Int32 → HS → Prop} (h : P_X11_isSpeed v0 v1 v2 Q S) : MI l yX11_isSpeed cX11_isSpeed 3 (some .boolean) rm_X11_isSpeed Ee S [.ref v0, .int v1, .int v2] (fun r S => bl r ∧ Q r S) :=
  openI (by decide) (Nat.le_of_ble_eq_true rfl) (fun X C E ht hn hE hl => by subst hE; exact r_sub [0, 1, 2] rfl (T_X11_isSpeed_0 C E ht hn h))
end
