theorem fL_X0_18 : FL RX0 18 0 4 2 := ⟨_, rfl, by decide, by decide, g_368, rfl⟩
theorem fL_X0_22 : FL RX0 22 0 5 2 := ⟨_, rfl, by decide, by decide, g_370, rfl⟩
theorem fL_X0_26 : FL RX0 26 0 6 2 := ⟨_, rfl, by decide, by decide, g_371, rfl⟩
theorem fL_X0_29 : FL RX0 29 0 2 0 := ⟨_, rfl, by decide, by decide, g_364, rfl⟩
theorem fL_X0_32 : FL RX0 32 0 3 0 := ⟨_, rfl, by decide, by decide, g_366, rfl⟩
theorem fL_X0_38 : FL RX0 38 2 0 0 := ⟨_, rfl, by decide, by decide, g_344, rfl⟩
theorem fL_X0_41 : FL RX0 41 2 1 0 := ⟨_, rfl, by decide, by decide, g_347, rfl⟩
theorem fL_X0_44 : FL RX0 44 2 2 2 := ⟨_, rfl, by decide, by decide, g_350, rfl⟩
theorem fL_X0_48 : FL RX0 48 0 1 0 := ⟨_, rfl, by decide, by decide, g_362, rfl⟩
theorem fL_X0_51 : FL RX0 51 8 1 0 := ⟨_, rfl, by decide, by decide, g_149, rfl⟩
theorem fL_X0_57 : FL RX0 57 8 6 2 := ⟨_, rfl, by decide, by decide, g_168, rfl⟩
theorem fL_X0_61 : FL RX0 61 3 4 0 := ⟨_, rfl, by decide, by decide, g_56, rfl⟩
theorem fL_X0_9 : FL RX0 9 0 0 0 := ⟨_, rfl, by decide, by decide, g_360, rfl⟩
theorem fL_X10_15 : FL RX10 15 10 8 2 := ⟨_, rfl, by decide, by decide, g_1270, rfl⟩
theorem fL_X10_18 : FL RX10 18 10 9 2 := ⟨_, rfl, by decide, by decide, g_1272, rfl⟩
theorem fL_X10_21 : FL RX10 21 10 10 2 := ⟨_, rfl, by decide, by decide, g_1274, rfl⟩
theorem fL_X10_24 : FL RX10 24 10 11 2 := ⟨_, rfl, by decide, by decide, g_1276, rfl⟩
theorem fL_X10_27 : FL RX10 27 10 12 2 := ⟨_, rfl, by decide, by decide, g_1278, rfl⟩
theorem fL_X10_30 : FL RX10 30 10 13 2 := ⟨_, rfl, by decide, by decide, g_1280, rfl⟩
theorem fL_X10_33 : FL RX10 33 10 14 2 := ⟨_, rfl, by decide, by decide, g_1282, rfl⟩
theorem fL_X10_36 : FL RX10 36 10 15 2 := ⟨_, rfl, by decide, by decide, g_1284, rfl⟩
theorem fL_X10_39 : FL RX10 39 10 16 2 := ⟨_, rfl, by decide, by decide, g_1286, rfl⟩
theorem fL_X10_42 : FL RX10 42 10 17 2 := ⟨_, rfl, by decide, by decide, g_1288, rfl⟩
theorem fL_X10_45 : FL RX10 45 10 18 2 := ⟨_, rfl, by decide, by decide, g_1290, rfl⟩
theorem fL_X10_49 : FL RX10 49 10 19 2 := ⟨_, rfl, by decide, by decide, g_1292, rfl⟩
theorem fL_X10_52 : FL RX10 52 10 20 2 := ⟨_, rfl, by decide, by decide, g_1294, rfl⟩
theorem fL_X10_55 : FL RX10 55 10 21 2 := ⟨_, rfl, by decide, by decide, g_1296, rfl⟩
theorem fL_X10_58 : FL RX10 58 10 22 2 := ⟨_, rfl, by decide, by decide, g_1298, rfl⟩
theorem fL_X10_61 : FL RX10 61 10 23 2 := ⟨_, rfl, by decide, by decide, g_1300, rfl⟩
theorem fL_X10_64 : FL RX10 64 10 24 2 := ⟨_, rfl, by decide, by decide, g_1302, rfl⟩
theorem fL_X10_67 : FL RX10 67 10 25 2 := ⟨_, rfl, by decide, by decide, g_1304, rfl⟩
theorem fL_X10_70 : FL RX10 70 10 26 2 := ⟨_, rfl, by decide, by decide, g_1306, rfl⟩
theorem fL_X10_73 : FL RX10 73 10 27 2 := ⟨_, rfl, by decide, by decide, g_1308, rfl⟩
theorem fL_X10_76 : FL RX10 76 10 28 2 := ⟨_, rfl, by decide, by decide, g_1310, rfl⟩
theorem fL_X10_80 : FL RX10 80 10 29 2 := ⟨_, rfl, by decide, by decide, g_1312, rfl⟩
theorem fL_X10_83 : FL RX10 83 10 30 2 := ⟨_, rfl, by decide, by decide, g_1314, rfl⟩
theorem fL_X10_86 : FL RX10 86 10 6 0 := ⟨_, rfl, by decide, by decide, g_1266, rfl⟩
theorem fL_X10_9 : FL RX10 9 10 7 2 := ⟨_, rfl, by decide, by decide, g_1268, rfl⟩
theorem fL_X11_100 : FL RX11 100 11 14 0 := ⟨_, rfl, by decide, by decide, g_1177, rfl⟩
theorem fL_X11_13 : FL RX11 13 11 5 2 := ⟨_, rfl, by decide, by decide, g_1168, rfl⟩
theorem fL_X11_147 : FL RX11 147 11 4 2 := ⟨_, rfl, by decide, by decide, g_1167, rfl⟩
theorem fL_X11_17 : FL RX11 17 11 16 2 := ⟨_, rfl, by decide, by decide, g_1179, rfl⟩
theorem fL_X11_21 : FL RX11 21 11 17 2 := ⟨_, rfl, by decide, by decide, g_1180, rfl⟩
theorem fL_X11_25 : FL RX11 25 11 18 2 := ⟨_, rfl, by decide, by decide, g_1181, rfl⟩
theorem fL_X11_28 : FL RX11 28 11 19 0 := ⟨_, rfl, by decide, by decide, g_1182, rfl⟩
theorem fL_X11_31 : FL RX11 31 11 21 2 := ⟨_, rfl, by decide, by decide, g_1184, rfl⟩
theorem fL_X11_331 : FL RX11 331 11 6 0 := ⟨_, rfl, by decide, by decide, g_1169, rfl⟩
theorem fL_X11_338 : FL RX11 338 11 3 2 := ⟨_, rfl, by decide, by decide, g_1166, rfl⟩
theorem fL_X11_34 : FL RX11 34 11 22 2 := ⟨_, rfl, by decide, by decide, g_1185, rfl⟩
theorem fL_X11_340 : FL RX11 340 11 24 0 := ⟨_, rfl, by decide, by decide, g_1187, rfl⟩
theorem fL_X11_343 : FL RX11 343 11 25 0 := ⟨_, rfl, by decide, by decide, g_1188, rfl⟩
theorem fL_X11_37 : FL RX11 37 11 23 2 := ⟨_, rfl, by decide, by decide, g_1186, rfl⟩
theorem fL_X11_40 : FL RX11 40 11 0 0 := ⟨_, rfl, by decide, by decide, g_1163, rfl⟩
theorem fL_X11_43 : FL RX11 43 11 1 0 := ⟨_, rfl, by decide, by decide, g_1164, rfl⟩
theorem fL_X11_475 : FL RX11 475 11 20 0 := ⟨_, rfl, by decide, by decide, g_1183, rfl⟩
theorem fL_X11_53 : FL RX11 53 11 7 0 := ⟨_, rfl, by decide, by decide, g_1170, rfl⟩
theorem fL_X11_68 : FL RX11 68 11 9 0 := ⟨_, rfl, by decide, by decide, g_1172, rfl⟩
theorem fL_X11_71 : FL RX11 71 11 8 0 := ⟨_, rfl, by decide, by decide, g_1171, rfl⟩
theorem fL_X11_77 : FL RX11 77 11 10 0 := ⟨_, rfl, by decide, by decide, g_1173, rfl⟩
theorem fL_X11_80 : FL RX11 80 11 11 0 := ⟨_, rfl, by decide, by decide, g_1174, rfl⟩
theorem fL_X11_87 : FL RX11 87 11 15 1 := ⟨_, rfl, by decide, by decide, g_1178, rfl⟩
theorem fL_X11_9 : FL RX11 9 11 2 0 := ⟨_, rfl, by decide, by decide, g_1165, rfl⟩
theorem fL_X11_94 : FL RX11 94 11 12 0 := ⟨_, rfl, by decide, by decide, g_1175, rfl⟩
theorem fL_X11_97 : FL RX11 97 11 13 0 := ⟨_, rfl, by decide, by decide, g_1176, rfl⟩
theorem fL_X1_107 : FL RX1 107 8 3 0 := ⟨_, rfl, by decide, by decide, g_159, rfl⟩
theorem fL_X1_112 : FL RX1 112 8 1 0 := ⟨_, rfl, by decide, by decide, g_150, rfl⟩
theorem fL_X1_119 : FL RX1 119 8 10 2 := ⟨_, rfl, by decide, by decide, g_186, rfl⟩
theorem fL_X1_129 : FL RX1 129 8 9 2 := ⟨_, rfl, by decide, by decide, g_183, rfl⟩
theorem fL_X1_136 : FL RX1 136 8 8 2 := ⟨_, rfl, by decide, by decide, g_178, rfl⟩
theorem fL_X1_140 : FL RX1 140 8 6 2 := ⟨_, rfl, by decide, by decide, g_171, rfl⟩
theorem fL_X1_144 : FL RX1 144 8 11 2 := ⟨_, rfl, by decide, by decide, g_189, rfl⟩
theorem fL_X1_15 : FL RX1 15 1 1 2 := ⟨_, rfl, by decide, by decide, g_275, rfl⟩
theorem fL_X1_18 : FL RX1 18 5 3 0 := ⟨_, rfl, by decide, by decide, g_84, rfl⟩
theorem fL_X1_24 : FL RX1 24 5 4 0 := ⟨_, rfl, by decide, by decide, g_87, rfl⟩
theorem fL_X1_27 : FL RX1 27 3 0 0 := ⟨_, rfl, by decide, by decide, g_47, rfl⟩
theorem fL_X1_39 : FL RX1 39 3 1 0 := ⟨_, rfl, by decide, by decide, g_49, rfl⟩
theorem fL_X1_48 : FL RX1 48 3 3 0 := ⟨_, rfl, by decide, by decide, g_53, rfl⟩
theorem fL_X1_57 : FL RX1 57 6 2 0 := ⟨_, rfl, by decide, by decide, g_113, rfl⟩
theorem fL_X1_63 : FL RX1 63 6 3 0 := ⟨_, rfl, by decide, by decide, g_116, rfl⟩
theorem fL_X1_78 : FL RX1 78 6 4 0 := ⟨_, rfl, by decide, by decide, g_118, rfl⟩
theorem fL_X1_81 : FL RX1 81 6 5 0 := ⟨_, rfl, by decide, by decide, g_121, rfl⟩
theorem fL_X1_86 : FL RX1 86 6 6 0 := ⟨_, rfl, by decide, by decide, g_126, rfl⟩
theorem fL_X1_9 : FL RX1 9 1 0 2 := ⟨_, rfl, by decide, by decide, g_273, rfl⟩
theorem fL_X2_15 : FL RX2 15 2 0 0 := ⟨_, rfl, by decide, by decide, g_343, rfl⟩
theorem fL_X2_19 : FL RX2 19 2 1 0 := ⟨_, rfl, by decide, by decide, g_346, rfl⟩
theorem fL_X2_9 : FL RX2 9 2 2 2 := ⟨_, rfl, by decide, by decide, g_349, rfl⟩
theorem fL_X4_104 : FL RX4 104 4 3 0 := ⟨_, rfl, by decide, by decide, g_229, rfl⟩
theorem fL_X4_107 : FL RX4 107 4 4 0 := ⟨_, rfl, by decide, by decide, g_230, rfl⟩
theorem fL_X4_110 : FL RX4 110 4 0 0 := ⟨_, rfl, by decide, by decide, g_224, rfl⟩
theorem fL_X4_113 : FL RX4 113 4 1 0 := ⟨_, rfl, by decide, by decide, g_226, rfl⟩
theorem fL_X4_116 : FL RX4 116 4 10 0 := ⟨_, rfl, by decide, by decide, g_236, rfl⟩
theorem fL_X4_125 : FL RX4 125 4 7 0 := ⟨_, rfl, by decide, by decide, g_233, rfl⟩
theorem fL_X4_132 : FL RX4 132 4 8 1 := ⟨_, rfl, by decide, by decide, g_234, rfl⟩
theorem fL_X4_147 : FL RX4 147 4 9 0 := ⟨_, rfl, by decide, by decide, g_235, rfl⟩
theorem fL_X4_18 : FL RX4 18 4 5 2 := ⟨_, rfl, by decide, by decide, g_231, rfl⟩
theorem fL_X4_185 : FL RX4 185 8 0 0 := ⟨_, rfl, by decide, by decide, g_144, rfl⟩
theorem fL_X4_188 : FL RX4 188 8 6 2 := ⟨_, rfl, by decide, by decide, g_172, rfl⟩
theorem fL_X4_193 : FL RX4 193 3 0 0 := ⟨_, rfl, by decide, by decide, g_48, rfl⟩
theorem fL_X4_199 : FL RX4 199 3 1 0 := ⟨_, rfl, by decide, by decide, g_50, rfl⟩
theorem fL_X4_206 : FL RX4 206 3 2 0 := ⟨_, rfl, by decide, by decide, g_52, rfl⟩
theorem fL_X4_209 : FL RX4 209 3 3 0 := ⟨_, rfl, by decide, by decide, g_55, rfl⟩
theorem fL_X4_213 : FL RX4 213 3 4 0 := ⟨_, rfl, by decide, by decide, g_59, rfl⟩
theorem fL_X4_218 : FL RX4 218 8 7 2 := ⟨_, rfl, by decide, by decide, g_174, rfl⟩
theorem fL_X4_22 : FL RX4 22 4 11 2 := ⟨_, rfl, by decide, by decide, g_237, rfl⟩
theorem fL_X4_221 : FL RX4 221 8 8 2 := ⟨_, rfl, by decide, by decide, g_179, rfl⟩
theorem fL_X4_227 : FL RX4 227 5 0 0 := ⟨_, rfl, by decide, by decide, g_79, rfl⟩
theorem fL_X4_232 : FL RX4 232 5 2 0 := ⟨_, rfl, by decide, by decide, g_83, rfl⟩
theorem fL_X4_234 : FL RX4 234 5 3 0 := ⟨_, rfl, by decide, by decide, g_86, rfl⟩
theorem fL_X4_235 : FL RX4 235 5 1 0 := ⟨_, rfl, by decide, by decide, g_81, rfl⟩
theorem fL_X4_238 : FL RX4 238 5 4 0 := ⟨_, rfl, by decide, by decide, g_89, rfl⟩
theorem fL_X4_240 : FL RX4 240 8 9 2 := ⟨_, rfl, by decide, by decide, g_184, rfl⟩
theorem fL_X4_252 : FL RX4 252 6 5 0 := ⟨_, rfl, by decide, by decide, g_123, rfl⟩
theorem fL_X4_259 : FL RX4 259 6 6 0 := ⟨_, rfl, by decide, by decide, g_127, rfl⟩
theorem fL_X4_26 : FL RX4 26 4 12 2 := ⟨_, rfl, by decide, by decide, g_238, rfl⟩
theorem fL_X4_264 : FL RX4 264 6 0 0 := ⟨_, rfl, by decide, by decide, g_108, rfl⟩
theorem fL_X4_273 : FL RX4 273 6 1 0 := ⟨_, rfl, by decide, by decide, g_110, rfl⟩
theorem fL_X4_289 : FL RX4 289 8 10 2 := ⟨_, rfl, by decide, by decide, g_187, rfl⟩
theorem fL_X4_292 : FL RX4 292 8 11 2 := ⟨_, rfl, by decide, by decide, g_190, rfl⟩
theorem fL_X4_45 : FL RX4 45 8 1 0 := ⟨_, rfl, by decide, by decide, g_147, rfl⟩
theorem fL_X4_58 : FL RX4 58 8 2 0 := ⟨_, rfl, by decide, by decide, g_153, rfl⟩
theorem fL_X4_66 : FL RX4 66 8 3 0 := ⟨_, rfl, by decide, by decide, g_157, rfl⟩
theorem fL_X4_74 : FL RX4 74 8 4 0 := ⟨_, rfl, by decide, by decide, g_162, rfl⟩
theorem fL_X4_82 : FL RX4 82 8 5 0 := ⟨_, rfl, by decide, by decide, g_165, rfl⟩
theorem fL_X4_9 : FL RX4 9 4 2 2 := ⟨_, rfl, by decide, by decide, g_228, rfl⟩
theorem fL_X4_92 : FL RX4 92 4 6 0 := ⟨_, rfl, by decide, by decide, g_232, rfl⟩
theorem fL_X5_13 : FL RX5 13 5 1 0 := ⟨_, rfl, by decide, by decide, g_80, rfl⟩
theorem fL_X5_16 : FL RX5 16 5 3 0 := ⟨_, rfl, by decide, by decide, g_85, rfl⟩
theorem fL_X5_19 : FL RX5 19 5 2 0 := ⟨_, rfl, by decide, by decide, g_82, rfl⟩
theorem fL_X5_22 : FL RX5 22 3 2 0 := ⟨_, rfl, by decide, by decide, g_51, rfl⟩
theorem fL_X5_31 : FL RX5 31 3 3 0 := ⟨_, rfl, by decide, by decide, g_54, rfl⟩
theorem fL_X5_34 : FL RX5 34 5 4 0 := ⟨_, rfl, by decide, by decide, g_88, rfl⟩
theorem fL_X5_7 : FL RX5 7 5 0 0 := ⟨_, rfl, by decide, by decide, g_78, rfl⟩
theorem fL_X6_15 : FL RX6 15 6 1 0 := ⟨_, rfl, by decide, by decide, g_109, rfl⟩
theorem fL_X6_18 : FL RX6 18 6 2 0 := ⟨_, rfl, by decide, by decide, g_112, rfl⟩
theorem fL_X6_21 : FL RX6 21 6 3 0 := ⟨_, rfl, by decide, by decide, g_115, rfl⟩
theorem fL_X6_24 : FL RX6 24 6 4 0 := ⟨_, rfl, by decide, by decide, g_117, rfl⟩
theorem fL_X6_27 : FL RX6 27 6 5 0 := ⟨_, rfl, by decide, by decide, g_119, rfl⟩
theorem fL_X6_30 : FL RX6 30 6 6 0 := ⟨_, rfl, by decide, by decide, g_124, rfl⟩
theorem fL_X6_9 : FL RX6 9 6 0 0 := ⟨_, rfl, by decide, by decide, g_106, rfl⟩
theorem fL_X7_102 : FL RX7 102 6 5 0 := ⟨_, rfl, by decide, by decide, g_120, rfl⟩
theorem fL_X7_107 : FL RX7 107 6 6 0 := ⟨_, rfl, by decide, by decide, g_125, rfl⟩
theorem fL_X7_110 : FL RX7 110 8 6 2 := ⟨_, rfl, by decide, by decide, g_169, rfl⟩
theorem fL_X7_120 : FL RX7 120 3 4 0 := ⟨_, rfl, by decide, by decide, g_57, rfl⟩
theorem fL_X7_15 : FL RX7 15 7 1 2 := ⟨_, rfl, by decide, by decide, g_289, rfl⟩
theorem fL_X7_19 : FL RX7 19 7 2 2 := ⟨_, rfl, by decide, by decide, g_290, rfl⟩
theorem fL_X7_22 : FL RX7 22 7 4 2 := ⟨_, rfl, by decide, by decide, g_292, rfl⟩
theorem fL_X7_25 : FL RX7 25 7 5 2 := ⟨_, rfl, by decide, by decide, g_293, rfl⟩
theorem fL_X7_28 : FL RX7 28 7 6 2 := ⟨_, rfl, by decide, by decide, g_294, rfl⟩
theorem fL_X7_31 : FL RX7 31 7 7 2 := ⟨_, rfl, by decide, by decide, g_295, rfl⟩
theorem fL_X7_34 : FL RX7 34 7 8 2 := ⟨_, rfl, by decide, by decide, g_296, rfl⟩
theorem fL_X7_37 : FL RX7 37 7 9 0 := ⟨_, rfl, by decide, by decide, g_297, rfl⟩
theorem fL_X7_41 : FL RX7 41 7 10 0 := ⟨_, rfl, by decide, by decide, g_298, rfl⟩
theorem fL_X7_44 : FL RX7 44 7 11 0 := ⟨_, rfl, by decide, by decide, g_299, rfl⟩
theorem fL_X7_47 : FL RX7 47 7 12 0 := ⟨_, rfl, by decide, by decide, g_300, rfl⟩
theorem fL_X7_53 : FL RX7 53 7 13 0 := ⟨_, rfl, by decide, by decide, g_301, rfl⟩
theorem fL_X7_62 : FL RX7 62 8 1 0 := ⟨_, rfl, by decide, by decide, g_148, rfl⟩
theorem fL_X7_75 : FL RX7 75 8 2 0 := ⟨_, rfl, by decide, by decide, g_154, rfl⟩
theorem fL_X7_82 : FL RX7 82 7 3 0 := ⟨_, rfl, by decide, by decide, g_291, rfl⟩
theorem fL_X7_89 : FL RX7 89 8 9 2 := ⟨_, rfl, by decide, by decide, g_181, rfl⟩
theorem fL_X7_9 : FL RX7 9 7 0 2 := ⟨_, rfl, by decide, by decide, g_287, rfl⟩
theorem fL_X7_95 : FL RX7 95 8 3 0 := ⟨_, rfl, by decide, by decide, g_158, rfl⟩
theorem fL_X7_98 : FL RX7 98 8 8 2 := ⟨_, rfl, by decide, by decide, g_176, rfl⟩
theorem fL_X8_11 : FL RX8 11 8 6 2 := ⟨_, rfl, by decide, by decide, g_167, rfl⟩
theorem fL_X8_17 : FL RX8 17 8 7 2 := ⟨_, rfl, by decide, by decide, g_173, rfl⟩
theorem fL_X8_23 : FL RX8 23 8 8 2 := ⟨_, rfl, by decide, by decide, g_175, rfl⟩
theorem fL_X8_29 : FL RX8 29 8 9 2 := ⟨_, rfl, by decide, by decide, g_180, rfl⟩
theorem fL_X8_33 : FL RX8 33 8 10 2 := ⟨_, rfl, by decide, by decide, g_185, rfl⟩
theorem fL_X8_36 : FL RX8 36 8 11 2 := ⟨_, rfl, by decide, by decide, g_188, rfl⟩
theorem fL_X8_42 : FL RX8 42 8 0 0 := ⟨_, rfl, by decide, by decide, g_143, rfl⟩
theorem fL_X8_46 : FL RX8 46 8 1 0 := ⟨_, rfl, by decide, by decide, g_146, rfl⟩
theorem fL_X8_49 : FL RX8 49 8 2 0 := ⟨_, rfl, by decide, by decide, g_152, rfl⟩
theorem fL_X8_52 : FL RX8 52 8 3 0 := ⟨_, rfl, by decide, by decide, g_156, rfl⟩
theorem fL_X8_55 : FL RX8 55 8 4 0 := ⟨_, rfl, by decide, by decide, g_161, rfl⟩
theorem fL_X8_58 : FL RX8 58 8 5 0 := ⟨_, rfl, by decide, by decide, g_164, rfl⟩
theorem fL_X8_68 : FL RX8 68 6 2 0 := ⟨_, rfl, by decide, by decide, g_114, rfl⟩
theorem fL_X9_108 : FL RX9 108 8 9 2 := ⟨_, rfl, by decide, by decide, g_182, rfl⟩
theorem fL_X9_112 : FL RX9 112 8 8 2 := ⟨_, rfl, by decide, by decide, g_177, rfl⟩
theorem fL_X9_116 : FL RX9 116 8 6 2 := ⟨_, rfl, by decide, by decide, g_170, rfl⟩
theorem fL_X9_124 : FL RX9 124 1 0 2 := ⟨_, rfl, by decide, by decide, g_274, rfl⟩
theorem fL_X9_134 : FL RX9 134 3 4 0 := ⟨_, rfl, by decide, by decide, g_58, rfl⟩
theorem fL_X9_16 : FL RX9 16 9 2 2 := ⟨_, rfl, by decide, by decide, g_389, rfl⟩
theorem fL_X9_167 : FL RX9 167 6 0 0 := ⟨_, rfl, by decide, by decide, g_107, rfl⟩
theorem fL_X9_186 : FL RX9 186 6 5 0 := ⟨_, rfl, by decide, by decide, g_122, rfl⟩
theorem fL_X9_196 : FL RX9 196 8 1 0 := ⟨_, rfl, by decide, by decide, g_151, rfl⟩
theorem fL_X9_228 : FL RX9 228 7 0 2 := ⟨_, rfl, by decide, by decide, g_288, rfl⟩
theorem fL_X9_23 : FL RX9 23 9 3 2 := ⟨_, rfl, by decide, by decide, g_390, rfl⟩
theorem fL_X9_264 : FL RX9 264 8 5 0 := ⟨_, rfl, by decide, by decide, g_166, rfl⟩
theorem fL_X9_276 : FL RX9 276 0 1 0 := ⟨_, rfl, by decide, by decide, g_363, rfl⟩
theorem fL_X9_282 : FL RX9 282 0 0 0 := ⟨_, rfl, by decide, by decide, g_361, rfl⟩
theorem fL_X9_287 : FL RX9 287 0 4 2 := ⟨_, rfl, by decide, by decide, g_369, rfl⟩
theorem fL_X9_291 : FL RX9 291 2 0 0 := ⟨_, rfl, by decide, by decide, g_345, rfl⟩
theorem fL_X9_296 : FL RX9 296 2 1 0 := ⟨_, rfl, by decide, by decide, g_348, rfl⟩
theorem fL_X9_30 : FL RX9 30 9 4 2 := ⟨_, rfl, by decide, by decide, g_391, rfl⟩
theorem fL_X9_322 : FL RX9 322 2 2 2 := ⟨_, rfl, by decide, by decide, g_351, rfl⟩
theorem fL_X9_341 : FL RX9 341 6 1 0 := ⟨_, rfl, by decide, by decide, g_111, rfl⟩
theorem fL_X9_358 : FL RX9 358 8 3 0 := ⟨_, rfl, by decide, by decide, g_160, rfl⟩
theorem fL_X9_367 : FL RX9 367 8 0 0 := ⟨_, rfl, by decide, by decide, g_145, rfl⟩
theorem fL_X9_37 : FL RX9 37 9 5 2 := ⟨_, rfl, by decide, by decide, g_392, rfl⟩
theorem fL_X9_370 : FL RX9 370 8 2 0 := ⟨_, rfl, by decide, by decide, g_155, rfl⟩
theorem fL_X9_373 : FL RX9 373 0 2 0 := ⟨_, rfl, by decide, by decide, g_365, rfl⟩
theorem fL_X9_376 : FL RX9 376 0 3 0 := ⟨_, rfl, by decide, by decide, g_367, rfl⟩
theorem fL_X9_44 : FL RX9 44 9 6 2 := ⟨_, rfl, by decide, by decide, g_393, rfl⟩
theorem fL_X9_48 : FL RX9 48 9 1 0 := ⟨_, rfl, by decide, by decide, g_388, rfl⟩
theorem fL_X9_64 : FL RX9 64 4 0 0 := ⟨_, rfl, by decide, by decide, g_225, rfl⟩
theorem fL_X9_67 : FL RX9 67 9 7 0 := ⟨_, rfl, by decide, by decide, g_394, rfl⟩
theorem fL_X9_70 : FL RX9 70 4 1 0 := ⟨_, rfl, by decide, by decide, g_227, rfl⟩
theorem fL_X9_73 : FL RX9 73 9 8 0 := ⟨_, rfl, by decide, by decide, g_395, rfl⟩
theorem fL_X9_86 : FL RX9 86 8 4 0 := ⟨_, rfl, by decide, by decide, g_163, rfl⟩
theorem fL_X9_9 : FL RX9 9 9 0 2 := ⟨_, rfl, by decide, by decide, g_387, rfl⟩
theorem fL_X9_92 : FL RX9 92 9 9 0 := ⟨_, rfl, by decide, by decide, g_396, rfl⟩
theorem fN_X11_151 : FN RX11 151 10 0 0 := ⟨_, _, rfl, by decide, by decide, List.mem_of_getElem? (i := 0) rfl, rfl⟩
theorem fN_X11_164 : FN RX11 164 10 28 2 := ⟨_, _, rfl, by decide, by decide, List.mem_of_getElem? (i := 28) rfl, rfl⟩
theorem fN_X11_167 : FN RX11 167 10 6 0 := ⟨_, _, rfl, by decide, by decide, List.mem_of_getElem? (i := 6) rfl, rfl⟩
theorem fN_X11_170 : FN RX11 170 10 29 2 := ⟨_, _, rfl, by decide, by decide, List.mem_of_getElem? (i := 29) rfl, rfl⟩
theorem fN_X11_173 : FN RX11 173 10 30 2 := ⟨_, _, rfl, by decide, by decide, List.mem_of_getElem? (i := 30) rfl, rfl⟩
theorem fN_X11_190 : FN RX11 190 10 2 0 := ⟨_, _, rfl, by decide, by decide, List.mem_of_getElem? (i := 2) rfl, rfl⟩
theorem fN_X11_193 : FN RX11 193 10 4 0 := ⟨_, _, rfl, by decide, by decide, List.mem_of_getElem? (i := 4) rfl, rfl⟩
theorem fN_X11_219 : FN RX11 219 10 1 0 := ⟨_, _, rfl, by decide, by decide, List.mem_of_getElem? (i := 1) rfl, rfl⟩
theorem fN_X11_237 : FN RX11 237 10 7 2 := ⟨_, _, rfl, by decide, by decide, List.mem_of_getElem? (i := 7) rfl, rfl⟩
theorem fN_X11_239 : FN RX11 239 10 8 2 := ⟨_, _, rfl, by decide, by decide, List.mem_of_getElem? (i := 8) rfl, rfl⟩
theorem fN_X11_241 : FN RX11 241 10 9 2 := ⟨_, _, rfl, by decide, by decide, List.mem_of_getElem? (i := 9) rfl, rfl⟩
theorem fN_X11_244 : FN RX11 244 10 10 2 := ⟨_, _, rfl, by decide, by decide, List.mem_of_getElem? (i := 10) rfl, rfl⟩
theorem fN_X11_246 : FN RX11 246 10 11 2 := ⟨_, _, rfl, by decide, by decide, List.mem_of_getElem? (i := 11) rfl, rfl⟩
theorem fN_X11_258 : FN RX11 258 10 18 2 := ⟨_, _, rfl, by decide, by decide, List.mem_of_getElem? (i := 18) rfl, rfl⟩
theorem fN_X11_262 : FN RX11 262 10 12 2 := ⟨_, _, rfl, by decide, by decide, List.mem_of_getElem? (i := 12) rfl, rfl⟩
theorem fN_X11_264 : FN RX11 264 10 3 0 := ⟨_, _, rfl, by decide, by decide, List.mem_of_getElem? (i := 3) rfl, rfl⟩
theorem fN_X11_270 : FN RX11 270 10 13 2 := ⟨_, _, rfl, by decide, by decide, List.mem_of_getElem? (i := 13) rfl, rfl⟩
theorem fN_X11_273 : FN RX11 273 10 14 2 := ⟨_, _, rfl, by decide, by decide, List.mem_of_getElem? (i := 14) rfl, rfl⟩
theorem fN_X11_276 : FN RX11 276 10 15 2 := ⟨_, _, rfl, by decide, by decide, List.mem_of_getElem? (i := 15) rfl, rfl⟩
theorem fN_X11_279 : FN RX11 279 10 16 2 := ⟨_, _, rfl, by decide, by decide, List.mem_of_getElem? (i := 16) rfl, rfl⟩
theorem fN_X11_282 : FN RX11 282 10 17 2 := ⟨_, _, rfl, by decide, by decide, List.mem_of_getElem? (i := 17) rfl, rfl⟩
theorem fN_X11_302 : FN RX11 302 10 19 2 := ⟨_, _, rfl, by decide, by decide, List.mem_of_getElem? (i := 19) rfl, rfl⟩
theorem fN_X11_305 : FN RX11 305 10 20 2 := ⟨_, _, rfl, by decide, by decide, List.mem_of_getElem? (i := 20) rfl, rfl⟩
theorem fN_X11_308 : FN RX11 308 10 21 2 := ⟨_, _, rfl, by decide, by decide, List.mem_of_getElem? (i := 21) rfl, rfl⟩
theorem fN_X11_311 : FN RX11 311 10 22 2 := ⟨_, _, rfl, by decide, by decide, List.mem_of_getElem? (i := 22) rfl, rfl⟩
theorem fN_X11_314 : FN RX11 314 10 23 2 := ⟨_, _, rfl, by decide, by decide, List.mem_of_getElem? (i := 23) rfl, rfl⟩
theorem fN_X11_317 : FN RX11 317 10 24 2 := ⟨_, _, rfl, by decide, by decide, List.mem_of_getElem? (i := 24) rfl, rfl⟩
theorem fN_X11_320 : FN RX11 320 10 25 2 := ⟨_, _, rfl, by decide, by decide, List.mem_of_getElem? (i := 25) rfl, rfl⟩
theorem fN_X11_323 : FN RX11 323 10 5 0 := ⟨_, _, rfl, by decide, by decide, List.mem_of_getElem? (i := 5) rfl, rfl⟩
theorem fN_X11_326 : FN RX11 326 10 27 2 := ⟨_, _, rfl, by decide, by decide, List.mem_of_getElem? (i := 27) rfl, rfl⟩
theorem fN_X11_328 : FN RX11 328 10 26 2 := ⟨_, _, rfl, by decide, by decide, List.mem_of_getElem? (i := 26) rfl, rfl⟩
theorem nc_X0_15 : NC RX0 15 2 3 := ⟨_, _, tyX2, rfl, by decide, g_337, g_338, g_10, tyX2_ok, by decide +kernel⟩
theorem nc_X11_152 : NC RX11 152 10 31 := ⟨_, _, tyX10, rfl, by decide, g_1254, g_1255, g_17, tyX10_ok, by decide +kernel⟩
theorem nc_X4_15 : NC RX4 15 8 12 := ⟨_, _, tyX8, rfl, by decide, g_222, g_31, g_2, tyX8_ok, by decide +kernel⟩
theorem nc_X8_21 : NC RX8 21 5 5 := ⟨_, _, tyX5, rfl, by decide, g_38, g_73, g_4, tyX5_ok, by decide +kernel⟩
theorem nc_X8_27 : NC RX8 27 6 7 := ⟨_, _, tyX6, rfl, by decide, g_40, g_101, g_5, tyX6_ok, by decide +kernel⟩
theorem nc_X8_9 : NC RX8 9 3 5 := ⟨_, _, tyX3, rfl, by decide, g_36, g_42, g_3, tyX3_ok, by decide +kernel⟩
theorem nc_X9_13 : NC RX9 13 8 12 := ⟨_, _, tyX8, rfl, by decide, g_30, g_31, g_2, tyX8_ok, by decide +kernel⟩
theorem nc_X9_20 : NC RX9 20 4 13 := ⟨_, _, tyX4, rfl, by decide, g_216, g_217, g_6, tyX4_ok, by decide +kernel⟩
theorem nc_X9_27 : NC RX9 27 1 2 := ⟨_, _, tyX1, rfl, by decide, g_267, g_268, g_7, tyX1_ok, by decide +kernel⟩
theorem nc_X9_34 : NC RX9 34 7 14 := ⟨_, _, tyX7, rfl, by decide, g_281, g_282, g_8, tyX7_ok, by decide +kernel⟩
theorem nc_X9_41 : NC RX9 41 0 7 := ⟨_, _, tyX0, rfl, by decide, g_331, g_332, g_9, tyX0_ok, by decide +kernel⟩
theorem pfL_X0_18 : FPF RX0 18 0 4 2 := ⟨⟨fL_X0_18, _, (.object "RainWalk$Moment"), rfl, rfl, by decide +kernel, fun x => ⟨rfl, rfl⟩⟩, _, rfl, rfl⟩
theorem pfL_X0_22 : FPF RX0 22 0 5 2 := ⟨⟨fL_X0_22, _, (.array (.object "RainWalk$Moment")), rfl, rfl, by decide +kernel, fun x => ⟨rfl, rfl⟩⟩, _, rfl, rfl⟩
theorem pfL_X0_26 : FPF RX0 26 0 6 2 := ⟨⟨fL_X0_26, _, (.array (.object "RainWalk$Moment")), rfl, rfl, by decide +kernel, fun x => ⟨rfl, rfl⟩⟩, _, rfl, rfl⟩
theorem pfL_X0_29 : FP RX0 29 0 2 0 false := ⟨fL_X0_29, _, .int, rfl, rfl, by decide +kernel, fun x => ⟨rfl, rfl⟩⟩
theorem pfL_X0_32 : FP RX0 32 0 3 0 false := ⟨fL_X0_32, _, .int, rfl, rfl, by decide +kernel, fun x => ⟨rfl, rfl⟩⟩
theorem pfL_X0_38 : FP RX0 38 2 0 0 false := ⟨fL_X0_38, _, .int, rfl, rfl, by decide +kernel, fun x => ⟨rfl, rfl⟩⟩
theorem pfL_X0_41 : FP RX0 41 2 1 0 false := ⟨fL_X0_41, _, .int, rfl, rfl, by decide +kernel, fun x => ⟨rfl, rfl⟩⟩
theorem pfL_X0_48 : FP RX0 48 0 1 0 false := ⟨fL_X0_48, _, .int, rfl, rfl, by decide +kernel, fun x => ⟨rfl, rfl⟩⟩
theorem pfL_X0_9 : FP RX0 9 0 0 0 false := ⟨fL_X0_9, _, .int, rfl, rfl, by decide +kernel, fun x => ⟨rfl, rfl⟩⟩
theorem pfL_X10_15 : FPF RX10 15 10 8 2 := ⟨⟨fL_X10_15, _, (.array .int), rfl, rfl, by decide +kernel, fun x => ⟨rfl, rfl⟩⟩, _, rfl, rfl⟩
theorem pfL_X10_18 : FPF RX10 18 10 9 2 := ⟨⟨fL_X10_18, _, (.array .int), rfl, rfl, by decide +kernel, fun x => ⟨rfl, rfl⟩⟩, _, rfl, rfl⟩
theorem pfL_X10_21 : FPF RX10 21 10 10 2 := ⟨⟨fL_X10_21, _, (.array .int), rfl, rfl, by decide +kernel, fun x => ⟨rfl, rfl⟩⟩, _, rfl, rfl⟩
theorem pfL_X10_24 : FPF RX10 24 10 11 2 := ⟨⟨fL_X10_24, _, (.array .int), rfl, rfl, by decide +kernel, fun x => ⟨rfl, rfl⟩⟩, _, rfl, rfl⟩
theorem pfL_X10_27 : FPF RX10 27 10 12 2 := ⟨⟨fL_X10_27, _, (.array .int), rfl, rfl, by decide +kernel, fun x => ⟨rfl, rfl⟩⟩, _, rfl, rfl⟩
theorem pfL_X10_30 : FPF RX10 30 10 13 2 := ⟨⟨fL_X10_30, _, (.array .int), rfl, rfl, by decide +kernel, fun x => ⟨rfl, rfl⟩⟩, _, rfl, rfl⟩
theorem pfL_X10_33 : FPF RX10 33 10 14 2 := ⟨⟨fL_X10_33, _, (.array .int), rfl, rfl, by decide +kernel, fun x => ⟨rfl, rfl⟩⟩, _, rfl, rfl⟩
theorem pfL_X10_36 : FPF RX10 36 10 15 2 := ⟨⟨fL_X10_36, _, (.array .int), rfl, rfl, by decide +kernel, fun x => ⟨rfl, rfl⟩⟩, _, rfl, rfl⟩
theorem pfL_X10_39 : FPF RX10 39 10 16 2 := ⟨⟨fL_X10_39, _, (.array .int), rfl, rfl, by decide +kernel, fun x => ⟨rfl, rfl⟩⟩, _, rfl, rfl⟩
theorem pfL_X10_42 : FPF RX10 42 10 17 2 := ⟨⟨fL_X10_42, _, (.array .int), rfl, rfl, by decide +kernel, fun x => ⟨rfl, rfl⟩⟩, _, rfl, rfl⟩
theorem pfL_X10_45 : FPF RX10 45 10 18 2 := ⟨⟨fL_X10_45, _, (.array .boolean), rfl, rfl, by decide +kernel, fun x => ⟨rfl, rfl⟩⟩, _, rfl, rfl⟩
theorem pfL_X10_49 : FPF RX10 49 10 19 2 := ⟨⟨fL_X10_49, _, (.array .int), rfl, rfl, by decide +kernel, fun x => ⟨rfl, rfl⟩⟩, _, rfl, rfl⟩
theorem pfL_X10_52 : FPF RX10 52 10 20 2 := ⟨⟨fL_X10_52, _, (.array .int), rfl, rfl, by decide +kernel, fun x => ⟨rfl, rfl⟩⟩, _, rfl, rfl⟩
theorem pfL_X10_55 : FPF RX10 55 10 21 2 := ⟨⟨fL_X10_55, _, (.array .int), rfl, rfl, by decide +kernel, fun x => ⟨rfl, rfl⟩⟩, _, rfl, rfl⟩
theorem pfL_X10_58 : FPF RX10 58 10 22 2 := ⟨⟨fL_X10_58, _, (.array .int), rfl, rfl, by decide +kernel, fun x => ⟨rfl, rfl⟩⟩, _, rfl, rfl⟩
theorem pfL_X10_61 : FPF RX10 61 10 23 2 := ⟨⟨fL_X10_61, _, (.array .int), rfl, rfl, by decide +kernel, fun x => ⟨rfl, rfl⟩⟩, _, rfl, rfl⟩
theorem pfL_X10_64 : FPF RX10 64 10 24 2 := ⟨⟨fL_X10_64, _, (.array .int), rfl, rfl, by decide +kernel, fun x => ⟨rfl, rfl⟩⟩, _, rfl, rfl⟩
theorem pfL_X10_67 : FPF RX10 67 10 25 2 := ⟨⟨fL_X10_67, _, (.array .int), rfl, rfl, by decide +kernel, fun x => ⟨rfl, rfl⟩⟩, _, rfl, rfl⟩
theorem pfL_X10_70 : FPF RX10 70 10 26 2 := ⟨⟨fL_X10_70, _, (.array .int), rfl, rfl, by decide +kernel, fun x => ⟨rfl, rfl⟩⟩, _, rfl, rfl⟩
theorem pfL_X10_73 : FPF RX10 73 10 27 2 := ⟨⟨fL_X10_73, _, (.array .int), rfl, rfl, by decide +kernel, fun x => ⟨rfl, rfl⟩⟩, _, rfl, rfl⟩
theorem pfL_X10_76 : FPF RX10 76 10 28 2 := ⟨⟨fL_X10_76, _, (.array .long), rfl, rfl, by decide +kernel, fun x => ⟨rfl, rfl⟩⟩, _, rfl, rfl⟩
theorem pfL_X10_80 : FPF RX10 80 10 29 2 := ⟨⟨fL_X10_80, _, (.array .int), rfl, rfl, by decide +kernel, fun x => ⟨rfl, rfl⟩⟩, _, rfl, rfl⟩
theorem pfL_X10_83 : FPF RX10 83 10 30 2 := ⟨⟨fL_X10_83, _, (.array .int), rfl, rfl, by decide +kernel, fun x => ⟨rfl, rfl⟩⟩, _, rfl, rfl⟩
theorem pfL_X10_9 : FPF RX10 9 10 7 2 := ⟨⟨fL_X10_9, _, (.array .int), rfl, rfl, by decide +kernel, fun x => ⟨rfl, rfl⟩⟩, _, rfl, rfl⟩
theorem pfL_X11_100 : FP RX11 100 11 14 0 false := ⟨fL_X11_100, _, .int, rfl, rfl, by decide +kernel, fun x => ⟨rfl, rfl⟩⟩
theorem pfL_X11_13 : FPF RX11 13 11 5 2 := ⟨⟨fL_X11_13, _, (.array .byte), rfl, rfl, by decide +kernel, fun x => ⟨rfl, rfl⟩⟩, _, rfl, rfl⟩
theorem pfL_X11_147 : FP RX11 147 11 4 2 false := ⟨fL_X11_147, _, (.object "RainWalkModel$World"), rfl, rfl, by decide +kernel, fun x => ⟨rfl, rfl⟩⟩
theorem pfL_X11_17 : FPF RX11 17 11 16 2 := ⟨⟨fL_X11_17, _, (.array .long), rfl, rfl, by decide +kernel, fun x => ⟨rfl, rfl⟩⟩, _, rfl, rfl⟩
theorem pfL_X11_21 : FPF RX11 21 11 17 2 := ⟨⟨fL_X11_21, _, (.array .int), rfl, rfl, by decide +kernel, fun x => ⟨rfl, rfl⟩⟩, _, rfl, rfl⟩
theorem pfL_X11_25 : FPF RX11 25 11 18 2 := ⟨⟨fL_X11_25, _, (.array .int), rfl, rfl, by decide +kernel, fun x => ⟨rfl, rfl⟩⟩, _, rfl, rfl⟩
theorem pfL_X11_28 : FP RX11 28 11 19 0 false := ⟨fL_X11_28, _, .int, rfl, rfl, by decide +kernel, fun x => ⟨rfl, rfl⟩⟩
theorem pfL_X11_31 : FPF RX11 31 11 21 2 := ⟨⟨fL_X11_31, _, (.array .long), rfl, rfl, by decide +kernel, fun x => ⟨rfl, rfl⟩⟩, _, rfl, rfl⟩
theorem pfL_X11_331 : FP RX11 331 11 6 0 false := ⟨fL_X11_331, _, .int, rfl, rfl, by decide +kernel, fun x => ⟨rfl, rfl⟩⟩
theorem pfL_X11_338 : FP RX11 338 11 3 2 false := ⟨fL_X11_338, _, (.object "RainWalkModel$World"), rfl, rfl, by decide +kernel, fun x => ⟨rfl, rfl⟩⟩
theorem pfL_X11_34 : FPF RX11 34 11 22 2 := ⟨⟨fL_X11_34, _, (.array .long), rfl, rfl, by decide +kernel, fun x => ⟨rfl, rfl⟩⟩, _, rfl, rfl⟩
theorem pfL_X11_340 : FP RX11 340 11 24 0 false := ⟨fL_X11_340, _, .int, rfl, rfl, by decide +kernel, fun x => ⟨rfl, rfl⟩⟩
theorem pfL_X11_343 : FP RX11 343 11 25 0 false := ⟨fL_X11_343, _, .int, rfl, rfl, by decide +kernel, fun x => ⟨rfl, rfl⟩⟩
theorem pfL_X11_37 : FPF RX11 37 11 23 2 := ⟨⟨fL_X11_37, _, (.array .long), rfl, rfl, by decide +kernel, fun x => ⟨rfl, rfl⟩⟩, _, rfl, rfl⟩
theorem pfL_X11_40 : FP RX11 40 11 0 0 false := ⟨fL_X11_40, _, .int, rfl, rfl, by decide +kernel, fun x => ⟨rfl, rfl⟩⟩
theorem pfL_X11_43 : FP RX11 43 11 1 0 false := ⟨fL_X11_43, _, .int, rfl, rfl, by decide +kernel, fun x => ⟨rfl, rfl⟩⟩
theorem pfL_X11_475 : FP RX11 475 11 20 0 false := ⟨fL_X11_475, _, .int, rfl, rfl, by decide +kernel, fun x => ⟨rfl, rfl⟩⟩
theorem pfL_X11_53 : FP RX11 53 11 7 0 false := ⟨fL_X11_53, _, .int, rfl, rfl, by decide +kernel, fun x => ⟨rfl, rfl⟩⟩
theorem pfL_X11_68 : FP RX11 68 11 9 0 false := ⟨fL_X11_68, _, .int, rfl, rfl, by decide +kernel, fun x => ⟨rfl, rfl⟩⟩
theorem pfL_X11_71 : FP RX11 71 11 8 0 false := ⟨fL_X11_71, _, .int, rfl, rfl, by decide +kernel, fun x => ⟨rfl, rfl⟩⟩
theorem pfL_X11_77 : FP RX11 77 11 10 0 false := ⟨fL_X11_77, _, .int, rfl, rfl, by decide +kernel, fun x => ⟨rfl, rfl⟩⟩
theorem pfL_X11_80 : FP RX11 80 11 11 0 false := ⟨fL_X11_80, _, .int, rfl, rfl, by decide +kernel, fun x => ⟨rfl, rfl⟩⟩
theorem pfL_X11_87 : FP RX11 87 11 15 1 false := ⟨fL_X11_87, _, .long, rfl, rfl, by decide +kernel, fun x => ⟨rfl, rfl⟩⟩
theorem pfL_X11_9 : FP RX11 9 11 2 0 false := ⟨fL_X11_9, _, .int, rfl, rfl, by decide +kernel, fun x => ⟨rfl, rfl⟩⟩
theorem pfL_X11_94 : FP RX11 94 11 12 0 false := ⟨fL_X11_94, _, .int, rfl, rfl, by decide +kernel, fun x => ⟨rfl, rfl⟩⟩
theorem pfL_X11_97 : FP RX11 97 11 13 0 false := ⟨fL_X11_97, _, .int, rfl, rfl, by decide +kernel, fun x => ⟨rfl, rfl⟩⟩
theorem pfL_X1_15 : FPF RX1 15 1 1 2 := ⟨⟨fL_X1_15, _, (.array .long), rfl, rfl, by decide +kernel, fun x => ⟨rfl, rfl⟩⟩, _, rfl, rfl⟩
theorem pfL_X1_9 : FPF RX1 9 1 0 2 := ⟨⟨fL_X1_9, _, (.array .long), rfl, rfl, by decide +kernel, fun x => ⟨rfl, rfl⟩⟩, _, rfl, rfl⟩
theorem pfL_X2_15 : FP RX2 15 2 0 0 false := ⟨fL_X2_15, _, .int, rfl, rfl, by decide +kernel, fun x => ⟨rfl, rfl⟩⟩
theorem pfL_X2_19 : FP RX2 19 2 1 0 false := ⟨fL_X2_19, _, .int, rfl, rfl, by decide +kernel, fun x => ⟨rfl, rfl⟩⟩
theorem pfL_X2_9 : FPF RX2 9 2 2 2 := ⟨⟨fL_X2_9, _, (.array .long), rfl, rfl, by decide +kernel, fun x => ⟨rfl, rfl⟩⟩, _, rfl, rfl⟩
theorem pfL_X4_104 : FP RX4 104 4 3 0 false := ⟨fL_X4_104, _, .int, rfl, rfl, by decide +kernel, fun x => ⟨rfl, rfl⟩⟩
theorem pfL_X4_107 : FP RX4 107 4 4 0 false := ⟨fL_X4_107, _, .int, rfl, rfl, by decide +kernel, fun x => ⟨rfl, rfl⟩⟩
theorem pfL_X4_110 : FP RX4 110 4 0 0 false := ⟨fL_X4_110, _, .int, rfl, rfl, by decide +kernel, fun x => ⟨rfl, rfl⟩⟩
theorem pfL_X4_113 : FP RX4 113 4 1 0 false := ⟨fL_X4_113, _, .int, rfl, rfl, by decide +kernel, fun x => ⟨rfl, rfl⟩⟩
theorem pfL_X4_116 : FP RX4 116 4 10 0 false := ⟨fL_X4_116, _, .int, rfl, rfl, by decide +kernel, fun x => ⟨rfl, rfl⟩⟩
theorem pfL_X4_125 : FP RX4 125 4 7 0 false := ⟨fL_X4_125, _, .int, rfl, rfl, by decide +kernel, fun x => ⟨rfl, rfl⟩⟩
theorem pfL_X4_132 : FP RX4 132 4 8 1 false := ⟨fL_X4_132, _, .long, rfl, rfl, by decide +kernel, fun x => ⟨rfl, rfl⟩⟩
theorem pfL_X4_147 : FP RX4 147 4 9 0 false := ⟨fL_X4_147, _, .int, rfl, rfl, by decide +kernel, fun x => ⟨rfl, rfl⟩⟩
theorem pfL_X4_18 : FP RX4 18 4 5 2 false := ⟨fL_X4_18, _, (.object "RainWalk$World"), rfl, rfl, by decide +kernel, fun x => ⟨rfl, rfl⟩⟩
theorem pfL_X4_185 : FP RX4 185 8 0 0 false := ⟨fL_X4_185, _, .int, rfl, rfl, by decide +kernel, fun x => ⟨rfl, rfl⟩⟩
theorem pfL_X4_193 : FP RX4 193 3 0 0 false := ⟨fL_X4_193, _, .int, rfl, rfl, by decide +kernel, fun x => ⟨rfl, rfl⟩⟩
theorem pfL_X4_199 : FP RX4 199 3 1 0 false := ⟨fL_X4_199, _, .int, rfl, rfl, by decide +kernel, fun x => ⟨rfl, rfl⟩⟩
theorem pfL_X4_206 : FP RX4 206 3 2 0 false := ⟨fL_X4_206, _, .int, rfl, rfl, by decide +kernel, fun x => ⟨rfl, rfl⟩⟩
theorem pfL_X4_209 : FP RX4 209 3 3 0 false := ⟨fL_X4_209, _, .int, rfl, rfl, by decide +kernel, fun x => ⟨rfl, rfl⟩⟩
theorem pfL_X4_213 : FP RX4 213 3 4 0 false := ⟨fL_X4_213, _, .int, rfl, rfl, by decide +kernel, fun x => ⟨rfl, rfl⟩⟩
theorem pfL_X4_22 : FPF RX4 22 4 11 2 := ⟨⟨fL_X4_22, _, (.array .long), rfl, rfl, by decide +kernel, fun x => ⟨rfl, rfl⟩⟩, _, rfl, rfl⟩
theorem pfL_X4_227 : FP RX4 227 5 0 0 false := ⟨fL_X4_227, _, .int, rfl, rfl, by decide +kernel, fun x => ⟨rfl, rfl⟩⟩
theorem pfL_X4_232 : FP RX4 232 5 2 0 false := ⟨fL_X4_232, _, .int, rfl, rfl, by decide +kernel, fun x => ⟨rfl, rfl⟩⟩
theorem pfL_X4_234 : FP RX4 234 5 3 0 false := ⟨fL_X4_234, _, .int, rfl, rfl, by decide +kernel, fun x => ⟨rfl, rfl⟩⟩
theorem pfL_X4_235 : FP RX4 235 5 1 0 false := ⟨fL_X4_235, _, .int, rfl, rfl, by decide +kernel, fun x => ⟨rfl, rfl⟩⟩
theorem pfL_X4_238 : FP RX4 238 5 4 0 false := ⟨fL_X4_238, _, .int, rfl, rfl, by decide +kernel, fun x => ⟨rfl, rfl⟩⟩
theorem pfL_X4_252 : FP RX4 252 6 5 0 false := ⟨fL_X4_252, _, .int, rfl, rfl, by decide +kernel, fun x => ⟨rfl, rfl⟩⟩
theorem pfL_X4_259 : FP RX4 259 6 6 0 false := ⟨fL_X4_259, _, .int, rfl, rfl, by decide +kernel, fun x => ⟨rfl, rfl⟩⟩
theorem pfL_X4_26 : FPF RX4 26 4 12 2 := ⟨⟨fL_X4_26, _, (.array .int), rfl, rfl, by decide +kernel, fun x => ⟨rfl, rfl⟩⟩, _, rfl, rfl⟩
theorem pfL_X4_264 : FP RX4 264 6 0 0 false := ⟨fL_X4_264, _, .int, rfl, rfl, by decide +kernel, fun x => ⟨rfl, rfl⟩⟩
theorem pfL_X4_273 : FP RX4 273 6 1 0 false := ⟨fL_X4_273, _, .int, rfl, rfl, by decide +kernel, fun x => ⟨rfl, rfl⟩⟩
theorem pfL_X4_45 : FP RX4 45 8 1 0 false := ⟨fL_X4_45, _, .int, rfl, rfl, by decide +kernel, fun x => ⟨rfl, rfl⟩⟩
theorem pfL_X4_58 : FP RX4 58 8 2 0 false := ⟨fL_X4_58, _, .int, rfl, rfl, by decide +kernel, fun x => ⟨rfl, rfl⟩⟩
theorem pfL_X4_66 : FP RX4 66 8 3 0 false := ⟨fL_X4_66, _, .int, rfl, rfl, by decide +kernel, fun x => ⟨rfl, rfl⟩⟩
theorem pfL_X4_74 : FP RX4 74 8 4 0 false := ⟨fL_X4_74, _, .int, rfl, rfl, by decide +kernel, fun x => ⟨rfl, rfl⟩⟩
theorem pfL_X4_82 : FP RX4 82 8 5 0 false := ⟨fL_X4_82, _, .int, rfl, rfl, by decide +kernel, fun x => ⟨rfl, rfl⟩⟩
theorem pfL_X4_9 : FP RX4 9 4 2 2 false := ⟨fL_X4_9, _, (.array .byte), rfl, rfl, by decide +kernel, fun x => ⟨rfl, rfl⟩⟩
theorem pfL_X4_92 : FP RX4 92 4 6 0 false := ⟨fL_X4_92, _, .int, rfl, rfl, by decide +kernel, fun x => ⟨rfl, rfl⟩⟩
theorem pfL_X6_18 : FP RX6 18 6 2 0 false := ⟨fL_X6_18, _, .int, rfl, rfl, by decide +kernel, fun x => ⟨rfl, rfl⟩⟩
theorem pfL_X6_21 : FP RX6 21 6 3 0 false := ⟨fL_X6_21, _, .int, rfl, rfl, by decide +kernel, fun x => ⟨rfl, rfl⟩⟩
theorem pfL_X6_24 : FP RX6 24 6 4 0 false := ⟨fL_X6_24, _, .int, rfl, rfl, by decide +kernel, fun x => ⟨rfl, rfl⟩⟩
theorem pfL_X7_15 : FP RX7 15 7 1 2 false := ⟨fL_X7_15, _, (.array .long), rfl, rfl, by decide +kernel, fun x => ⟨rfl, rfl⟩⟩
theorem pfL_X7_19 : FP RX7 19 7 2 2 false := ⟨fL_X7_19, _, (.array .int), rfl, rfl, by decide +kernel, fun x => ⟨rfl, rfl⟩⟩
theorem pfL_X7_22 : FP RX7 22 7 4 2 false := ⟨fL_X7_22, _, (.array .int), rfl, rfl, by decide +kernel, fun x => ⟨rfl, rfl⟩⟩
theorem pfL_X7_25 : FP RX7 25 7 5 2 false := ⟨fL_X7_25, _, (.array .int), rfl, rfl, by decide +kernel, fun x => ⟨rfl, rfl⟩⟩
theorem pfL_X7_28 : FP RX7 28 7 6 2 false := ⟨fL_X7_28, _, (.array .int), rfl, rfl, by decide +kernel, fun x => ⟨rfl, rfl⟩⟩
theorem pfL_X7_31 : FP RX7 31 7 7 2 false := ⟨fL_X7_31, _, (.array .long), rfl, rfl, by decide +kernel, fun x => ⟨rfl, rfl⟩⟩
theorem pfL_X7_34 : FP RX7 34 7 8 2 false := ⟨fL_X7_34, _, (.array .int), rfl, rfl, by decide +kernel, fun x => ⟨rfl, rfl⟩⟩
theorem pfL_X7_37 : FP RX7 37 7 9 0 false := ⟨fL_X7_37, _, .int, rfl, rfl, by decide +kernel, fun x => ⟨rfl, rfl⟩⟩
theorem pfL_X7_41 : FP RX7 41 7 10 0 false := ⟨fL_X7_41, _, .int, rfl, rfl, by decide +kernel, fun x => ⟨rfl, rfl⟩⟩
theorem pfL_X7_44 : FP RX7 44 7 11 0 false := ⟨fL_X7_44, _, .int, rfl, rfl, by decide +kernel, fun x => ⟨rfl, rfl⟩⟩
theorem pfL_X7_47 : FP RX7 47 7 12 0 false := ⟨fL_X7_47, _, .int, rfl, rfl, by decide +kernel, fun x => ⟨rfl, rfl⟩⟩
theorem pfL_X7_53 : FP RX7 53 7 13 0 false := ⟨fL_X7_53, _, .int, rfl, rfl, by decide +kernel, fun x => ⟨rfl, rfl⟩⟩
theorem pfL_X7_82 : FP RX7 82 7 3 0 false := ⟨fL_X7_82, _, .int, rfl, rfl, by decide +kernel, fun x => ⟨rfl, rfl⟩⟩
theorem pfL_X7_9 : FP RX7 9 7 0 2 false := ⟨fL_X7_9, _, (.array .int), rfl, rfl, by decide +kernel, fun x => ⟨rfl, rfl⟩⟩
theorem pfL_X8_11 : FPF RX8 11 8 6 2 := ⟨⟨fL_X8_11, _, (.array (.object "RainWalk$Rain")), rfl, rfl, by decide +kernel, fun x => ⟨rfl, rfl⟩⟩, _, rfl, rfl⟩
theorem pfL_X8_17 : FPF RX8 17 8 7 2 := ⟨⟨fL_X8_17, _, (.array .int), rfl, rfl, by decide +kernel, fun x => ⟨rfl, rfl⟩⟩, _, rfl, rfl⟩
theorem pfL_X8_23 : FPF RX8 23 8 8 2 := ⟨⟨fL_X8_23, _, (.array (.object "RainWalk$Road")), rfl, rfl, by decide +kernel, fun x => ⟨rfl, rfl⟩⟩, _, rfl, rfl⟩
theorem pfL_X8_29 : FPF RX8 29 8 9 2 := ⟨⟨fL_X8_29, _, (.array (.object "RainWalk$Walker")), rfl, rfl, by decide +kernel, fun x => ⟨rfl, rfl⟩⟩, _, rfl, rfl⟩
theorem pfL_X8_33 : FPF RX8 33 8 10 2 := ⟨⟨fL_X8_33, _, (.array .int), rfl, rfl, by decide +kernel, fun x => ⟨rfl, rfl⟩⟩, _, rfl, rfl⟩
theorem pfL_X8_36 : FPF RX8 36 8 11 2 := ⟨⟨fL_X8_36, _, (.array .int), rfl, rfl, by decide +kernel, fun x => ⟨rfl, rfl⟩⟩, _, rfl, rfl⟩
theorem pfL_X8_42 : FP RX8 42 8 0 0 false := ⟨fL_X8_42, _, .int, rfl, rfl, by decide +kernel, fun x => ⟨rfl, rfl⟩⟩
theorem pfL_X8_46 : FP RX8 46 8 1 0 false := ⟨fL_X8_46, _, .int, rfl, rfl, by decide +kernel, fun x => ⟨rfl, rfl⟩⟩
theorem pfL_X8_49 : FP RX8 49 8 2 0 false := ⟨fL_X8_49, _, .int, rfl, rfl, by decide +kernel, fun x => ⟨rfl, rfl⟩⟩
theorem pfL_X8_52 : FP RX8 52 8 3 0 false := ⟨fL_X8_52, _, .int, rfl, rfl, by decide +kernel, fun x => ⟨rfl, rfl⟩⟩
theorem pfL_X8_55 : FP RX8 55 8 4 0 false := ⟨fL_X8_55, _, .int, rfl, rfl, by decide +kernel, fun x => ⟨rfl, rfl⟩⟩
theorem pfL_X8_58 : FP RX8 58 8 5 0 false := ⟨fL_X8_58, _, .int, rfl, rfl, by decide +kernel, fun x => ⟨rfl, rfl⟩⟩
theorem pfL_X9_16 : FP RX9 16 9 2 2 false := ⟨fL_X9_16, _, (.object "RainWalk$World"), rfl, rfl, by decide +kernel, fun x => ⟨rfl, rfl⟩⟩
theorem pfL_X9_23 : FPF RX9 23 9 3 2 := ⟨⟨fL_X9_23, _, (.object "RainWalk$Reader"), rfl, rfl, by decide +kernel, fun x => ⟨rfl, rfl⟩⟩, _, rfl, rfl⟩
theorem pfL_X9_291 : FP RX9 291 2 0 0 false := ⟨fL_X9_291, _, .int, rfl, rfl, by decide +kernel, fun x => ⟨rfl, rfl⟩⟩
theorem pfL_X9_296 : FP RX9 296 2 1 0 false := ⟨fL_X9_296, _, .int, rfl, rfl, by decide +kernel, fun x => ⟨rfl, rfl⟩⟩
theorem pfL_X9_30 : FPF RX9 30 9 4 2 := ⟨⟨fL_X9_30, _, (.object "RainWalk$Leg"), rfl, rfl, by decide +kernel, fun x => ⟨rfl, rfl⟩⟩, _, rfl, rfl⟩
theorem pfL_X9_37 : FPF RX9 37 9 5 2 := ⟨⟨fL_X9_37, _, (.object "RainWalk$Ways"), rfl, rfl, by decide +kernel, fun x => ⟨rfl, rfl⟩⟩, _, rfl, rfl⟩
theorem pfL_X9_44 : FPF RX9 44 9 6 2 := ⟨⟨fL_X9_44, _, (.object "RainWalk$Day"), rfl, rfl, by decide +kernel, fun x => ⟨rfl, rfl⟩⟩, _, rfl, rfl⟩
theorem pfL_X9_48 : FP RX9 48 9 1 0 false := ⟨fL_X9_48, _, .int, rfl, rfl, by decide +kernel, fun x => ⟨rfl, rfl⟩⟩
theorem pfL_X9_67 : FP RX9 67 9 7 0 false := ⟨fL_X9_67, _, .int, rfl, rfl, by decide +kernel, fun x => ⟨rfl, rfl⟩⟩
theorem pfL_X9_73 : FP RX9 73 9 8 0 false := ⟨fL_X9_73, _, .int, rfl, rfl, by decide +kernel, fun x => ⟨rfl, rfl⟩⟩
theorem pfL_X9_9 : FPF RX9 9 9 0 2 := ⟨⟨fL_X9_9, _, (.array .byte), rfl, rfl, by decide +kernel, fun x => ⟨rfl, rfl⟩⟩, _, rfl, rfl⟩
theorem pfL_X9_92 : FP RX9 92 9 9 0 false := ⟨fL_X9_92, _, .int, rfl, rfl, by decide +kernel, fun x => ⟨rfl, rfl⟩⟩
theorem pfN_X11_151 : FPN RX11 151 10 0 0 := ⟨fN_X11_151, _, .int, rfl, rfl, by decide +kernel, fun x => ⟨rfl, rfl⟩⟩
theorem pfN_X11_167 : FPN RX11 167 10 6 0 := ⟨fN_X11_167, _, .int, rfl, rfl, by decide +kernel, fun x => ⟨rfl, rfl⟩⟩
theorem pfN_X11_190 : FPN RX11 190 10 2 0 := ⟨fN_X11_190, _, .int, rfl, rfl, by decide +kernel, fun x => ⟨rfl, rfl⟩⟩
theorem pfN_X11_193 : FPN RX11 193 10 4 0 := ⟨fN_X11_193, _, .int, rfl, rfl, by decide +kernel, fun x => ⟨rfl, rfl⟩⟩
theorem pfN_X11_219 : FPN RX11 219 10 1 0 := ⟨fN_X11_219, _, .int, rfl, rfl, by decide +kernel, fun x => ⟨rfl, rfl⟩⟩
theorem pfN_X11_264 : FPN RX11 264 10 3 0 := ⟨fN_X11_264, _, .int, rfl, rfl, by decide +kernel, fun x => ⟨rfl, rfl⟩⟩
theorem pfN_X11_323 : FPN RX11 323 10 5 0 := ⟨fN_X11_323, _, .int, rfl, rfl, by decide +kernel, fun x => ⟨rfl, rfl⟩⟩
theorem yI_X0_init : YI yX0_init cX0_init 2 0 := ⟨g_334, g_9, g_335, rfl, by decide, by decide, by decide +kernel⟩
theorem yI_X10_init : YI yX10_init cX10_init 1 0 := ⟨g_1257, g_17, g_1258, rfl, by decide, by decide, by decide +kernel⟩
theorem yI_X1_init : YI yX1_init cX1_init 1 0 := ⟨g_270, g_7, g_271, rfl, by decide, by decide, by decide +kernel⟩
theorem yI_X2_init : YI yX2_init cX2_init 1 0 := ⟨g_340, g_10, g_341, rfl, by decide, by decide, by decide +kernel⟩
theorem yI_X3_init : YI yX3_init cX3_init 1 0 := ⟨g_44, g_3, g_45, rfl, by decide, by decide, by decide +kernel⟩
theorem yI_X4_init : YI yX4_init cX4_init 1 0 := ⟨g_219, g_6, g_220, rfl, by decide, by decide, by decide +kernel⟩
theorem yI_X5_init : YI yX5_init cX5_init 1 0 := ⟨g_75, g_4, g_76, rfl, by decide, by decide, by decide +kernel⟩
theorem yI_X6_init : YI yX6_init cX6_init 1 0 := ⟨g_103, g_5, g_104, rfl, by decide, by decide, by decide +kernel⟩
theorem yI_X7_init : YI yX7_init cX7_init 1 0 := ⟨g_284, g_8, g_285, rfl, by decide, by decide, by decide +kernel⟩
theorem yI_X8_init : YI yX8_init cX8_init 2 0 := ⟨g_33, g_2, g_34, rfl, by decide, by decide, by decide +kernel⟩
theorem yS_X11_in : YS yX11_in cX11_in 3 (some .boolean) 3 := ⟨g_1435, g_11, g_1436, by decide, by decide, by decide +kernel⟩
theorem yS_X11_isDigit : YS yX11_isDigit cX11_isDigit 1 (some .boolean) 1 := ⟨g_1393, g_11, g_1394, by decide, by decide, by decide +kernel⟩
theorem yS_X11_isLetter : YS yX11_isLetter cX11_isLetter 1 (some .boolean) 1 := ⟨g_1389, g_11, g_1390, by decide, by decide, by decide +kernel⟩
theorem yS_X11_less : YS yX11_less cX11_less 2 (some .int) 2 := ⟨g_1583, g_11, g_1584, by decide, by decide, by decide +kernel⟩
theorem yS_X11_spotOf : YS yX11_spotOf cX11_spotOf 2 (some .int) 2 := ⟨g_1688, g_11, g_1689, by decide, by decide, by decide +kernel⟩
theorem yS_X11_wordOf : YS yX11_wordOf cX11_wordOf 4 (some .long) 1 := ⟨g_1409, g_11, g_1410, by decide, by decide, by decide +kernel⟩
theorem yS_X1_legsOf : YS yX1_legsOf cX1_legsOf 1 (some .int) 1 := ⟨g_938, g_7, g_939, by decide, by decide, by decide +kernel⟩
theorem yS_X9_coatParts : YS yX9_coatParts cX9_coatParts 1 (some .long) 1 := ⟨g_1027, g_1, g_1028, by decide, by decide, by decide +kernel⟩
theorem yS_X9_commonDivisor : YS yX9_commonDivisor cX9_commonDivisor 11 (some .long) 2 := ⟨g_726, g_1, g_727, by decide, by decide, by decide +kernel⟩
theorem yS_X9_fraction : YS yX9_fraction cX9_fraction 7 (some .long) 3 := ⟨g_723, g_1, g_724, by decide, by decide, by decide +kernel⟩
theorem yS_X9_isFace : YS yX9_isFace cX9_isFace 1 (some .boolean) 1 := ⟨g_654, g_1, g_655, by decide, by decide, by decide +kernel⟩
theorem yS_X9_isTill : YS yX9_isTill cX9_isTill 1 (some .boolean) 1 := ⟨g_830, g_1, g_831, by decide, by decide, by decide +kernel⟩
theorem yS_X9_isWay : YS yX9_isWay cX9_isWay 1 (some .boolean) 1 := ⟨g_673, g_1, g_674, by decide, by decide, by decide +kernel⟩
theorem yV_X0_begin : YV yX0_begin cX0_begin 5 none 0 3 := ⟨⟨_, rfl, rfl⟩, by decide, g_968, g_969, g_9, g_970, by decide, by decide, by decide +kernel⟩
theorem yV_X0_draw : YV yX0_draw cX0_draw 5 none 0 2 := ⟨⟨_, rfl, rfl⟩, by decide, g_973, g_974, g_9, g_975, by decide, by decide, by decide +kernel⟩
theorem yV_X0_end : YV yX0_end cX0_end 1 none 0 0 := ⟨⟨_, rfl, rfl⟩, by decide, g_634, g_635, g_9, g_636, by decide, by decide, by decide +kernel⟩
theorem yV_X0_isOn : YV yX0_isOn cX0_isOn 1 (some .boolean) 0 0 := ⟨⟨_, rfl, rfl⟩, by decide, g_982, g_983, g_9, g_984, by decide, by decide, by decide +kernel⟩
theorem yV_X0_keepForUndo : YV yX0_keepForUndo cX0_keepForUndo 3 none 0 0 := ⟨⟨_, rfl, rfl⟩, by decide, g_987, g_988, g_9, g_989, by decide, by decide, by decide +kernel⟩
theorem yV_X0_rainsIn : YV yX0_rainsIn cX0_rainsIn 2 (some .boolean) 0 1 := ⟨⟨_, rfl, rfl⟩, by decide, g_996, g_997, g_9, g_998, by decide, by decide, by decide +kernel⟩
theorem yV_X0_returnTo : YV yX0_returnTo cX0_returnTo 2 (some .boolean) 0 1 := ⟨⟨_, rfl, rfl⟩, by decide, g_1057, g_1058, g_9, g_1059, by decide, by decide, by decide +kernel⟩
theorem yV_X0_setMark : YV yX0_setMark cX0_setMark 1 (some .int) 0 0 := ⟨⟨_, rfl, rfl⟩, by decide, g_1049, g_1050, g_9, g_1051, by decide, by decide, by decide +kernel⟩
theorem yV_X0_takeBack : YV yX0_takeBack cX0_takeBack 1 (some .boolean) 0 0 := ⟨⟨_, rfl, rfl⟩, by decide, g_1041, g_1042, g_9, g_1043, by decide, by decide, by decide +kernel⟩
theorem yV_X10_across : YV yX10_across cX10_across 5 (some .int) 10 3 := ⟨⟨_, rfl, rfl⟩, by decide, g_1571, g_1572, g_17, g_1573, by decide, by decide, by decide +kernel⟩
theorem yV_X10_air : YV yX10_air cX10_air 5 (some .int) 10 3 := ⟨⟨_, rfl, rfl⟩, by decide, g_1563, g_1564, g_17, g_1565, by decide, by decide, by decide +kernel⟩
theorem yV_X10_begins : YV yX10_begins cX10_begins 3 (some .int) 10 2 := ⟨⟨_, rfl, rfl⟩, by decide, g_1696, g_1697, g_17, g_1698, by decide, by decide, by decide +kernel⟩
theorem yV_X10_ends : YV yX10_ends cX10_ends 3 (some .int) 10 2 := ⟨⟨_, rfl, rfl⟩, by decide, g_1700, g_1701, g_17, g_1702, by decide, by decide, by decide +kernel⟩
theorem yV_X10_facing : YV yX10_facing cX10_facing 3 (some .int) 10 2 := ⟨⟨_, rfl, rfl⟩, by decide, g_1567, g_1568, g_17, g_1569, by decide, by decide, by decide +kernel⟩
theorem yV_X10_find : YV yX10_find cX10_find 4 (some .int) 10 1 := ⟨⟨_, rfl, rfl⟩, by decide, g_1478, g_1479, g_17, g_1480, by decide, by decide, by decide +kernel⟩
theorem yV_X10_minutes : YV yX10_minutes cX10_minutes 3 (some .int) 10 2 := ⟨⟨_, rfl, rfl⟩, by decide, g_1608, g_1609, g_17, g_1610, by decide, by decide, by decide +kernel⟩
theorem yV_X10_shield : YV yX10_shield cX10_shield 2 (some .int) 10 1 := ⟨⟨_, rfl, rfl⟩, by decide, g_1579, g_1580, g_17, g_1581, by decide, by decide, by decide +kernel⟩
theorem yV_X11_begins : YV yX11_begins cX11_begins 3 none 11 2 := ⟨⟨_, rfl, rfl⟩, by decide, g_1444, gp_55, g_11, g_1445, by decide, by decide, by decide +kernel⟩
theorem yV_X11_bestOf : YV yX11_bestOf cX11_bestOf 7 (some .int) 11 4 := ⟨⟨_, rfl, rfl⟩, by decide, g_1629, gp_79, g_11, g_1630, by decide, by decide, by decide +kernel⟩
theorem yV_X11_byteAt : YV yX11_byteAt cX11_byteAt 2 (some .int) 11 1 := ⟨⟨_, rfl, rfl⟩, by decide, g_1386, gp_45, g_11, g_1387, by decide, by decide, by decide +kernel⟩
theorem yV_X11_canWait : YV yX11_canWait cX11_canWait 2 (some .boolean) 11 1 := ⟨⟨_, rfl, rfl⟩, by decide, g_1717, gp_90, g_11, g_1718, by decide, by decide, by decide +kernel⟩
theorem yV_X11_denied : YV yX11_denied cX11_denied 2 (some .boolean) 11 1 := ⟨⟨_, rfl, rfl⟩, by decide, g_1797, gp_99, g_11, g_1798, by decide, by decide, by decide +kernel⟩
theorem yV_X11_drips : YV yX11_drips cX11_drips 3 (some .long) 11 2 := ⟨⟨_, rfl, rfl⟩, by decide, g_1725, gp_92, g_11, g_1726, by decide, by decide, by decide +kernel⟩
theorem yV_X11_eatsSign : YV yX11_eatsSign cX11_eatsSign 3 (some .boolean) 11 1 := ⟨⟨_, rfl, rfl⟩, by decide, g_1516, gp_66, g_11, g_1517, by decide, by decide, by decide +kernel⟩
theorem yV_X11_eatsWord : YV yX11_eatsWord cX11_eatsWord 3 (some .boolean) 11 1 := ⟨⟨_, rfl, rfl⟩, by decide, g_1483, gp_60, g_11, g_1484, by decide, by decide, by decide +kernel⟩
theorem yV_X11_fitOf : YV yX11_fitOf cX11_fitOf 11 (some .int) 11 2 := ⟨⟨_, rfl, rfl⟩, by decide, g_1757, gp_95, g_11, g_1758, by decide, by decide, by decide +kernel⟩
theorem yV_X11_flaw : YV yX11_flaw cX11_flaw 2 none 11 1 := ⟨⟨_, rfl, rfl⟩, by decide, g_1419, gp_50, g_11, g_1420, by decide, by decide, by decide +kernel⟩
theorem yV_X11_goesOn : YV yX11_goesOn cX11_goesOn 3 none 11 0 := ⟨⟨_, rfl, rfl⟩, by decide, g_1382, gp_44, g_11, g_1383, by decide, by decide, by decide +kernel⟩
theorem yV_X11_good : YV yX11_good cX11_good 2 (some .int) 11 1 := ⟨⟨_, rfl, rfl⟩, by decide, g_1520, gp_67, g_11, g_1521, by decide, by decide, by decide +kernel⟩
theorem yV_X11_gotInAll : YV yX11_gotInAll cX11_gotInAll 4 (some .long) 11 0 := ⟨⟨_, rfl, rfl⟩, by decide, g_1814, gp_101, g_11, g_1815, by decide, by decide, by decide +kernel⟩
theorem yV_X11_granted : YV yX11_granted cX11_granted 1 (some .boolean) 11 0 := ⟨⟨_, rfl, rfl⟩, by decide, g_1802, gp_100, g_11, g_1803, by decide, by decide, by decide +kernel⟩
theorem yV_X11_holds : YV yX11_holds cX11_holds 1 (some .long) 11 0 := ⟨⟨_, rfl, rfl⟩, by decide, g_1818, gp_102, g_11, g_1819, by decide, by decide, by decide +kernel⟩
theorem yV_X11_hourOf : YV yX11_hourOf cX11_hourOf 2 (some .int) 11 1 := ⟨⟨_, rfl, rfl⟩, by decide, g_1709, gp_88, g_11, g_1710, by decide, by decide, by decide +kernel⟩
theorem yV_X11_inTime : YV yX11_inTime cX11_inTime 14 (some .int) 11 8 := ⟨⟨_, rfl, rfl⟩, by decide, g_1560, gp_74, g_11, g_1561, by decide, by decide, by decide +kernel⟩
theorem yV_X11_isDay : YV yX11_isDay cX11_isDay 1 (some .boolean) 11 0 := ⟨⟨_, rfl, rfl⟩, by decide, g_1781, gp_96, g_11, g_1782, by decide, by decide, by decide +kernel⟩
theorem yV_X11_isForward : YV yX11_isForward cX11_isForward 11 (some .boolean) 11 5 := ⟨⟨_, rfl, rfl⟩, by decide, g_1576, gp_75, g_11, g_1577, by decide, by decide, by decide +kernel⟩
theorem yV_X11_isHour : YV yX11_isHour cX11_isHour 2 (some .boolean) 11 1 := ⟨⟨_, rfl, rfl⟩, by decide, g_1548, gp_71, g_11, g_1549, by decide, by decide, by decide +kernel⟩
theorem yV_X11_isName : YV yX11_isName cX11_isName 1 (some .boolean) 11 0 := ⟨⟨_, rfl, rfl⟩, by decide, g_1469, gp_59, g_11, g_1470, by decide, by decide, by decide +kernel⟩
theorem yV_X11_isPlace : YV yX11_isPlace cX11_isPlace 2 (some .boolean) 11 1 := ⟨⟨_, rfl, rfl⟩, by decide, g_1681, gp_84, g_11, g_1682, by decide, by decide, by decide +kernel⟩
theorem yV_X11_isRoad : YV yX11_isRoad cX11_isRoad 2 (some .boolean) 11 1 := ⟨⟨_, rfl, rfl⟩, by decide, g_1544, gp_70, g_11, g_1545, by decide, by decide, by decide +kernel⟩
theorem yV_X11_isSeen : YV yX11_isSeen cX11_isSeen 2 (some .boolean) 11 1 := ⟨⟨_, rfl, rfl⟩, by decide, g_1753, gp_94, g_11, g_1754, by decide, by decide, by decide +kernel⟩
theorem yV_X11_isSpeed : YV yX11_isSpeed cX11_isSpeed 3 (some .boolean) 11 2 := ⟨⟨_, rfl, rfl⟩, by decide, g_1552, gp_72, g_11, g_1553, by decide, by decide, by decide +kernel⟩
theorem yV_X11_isWalker : YV yX11_isWalker cX11_isWalker 2 (some .boolean) 11 1 := ⟨⟨_, rfl, rfl⟩, by decide, g_1540, gp_69, g_11, g_1541, by decide, by decide, by decide +kernel⟩
theorem yV_X11_isWord : YV yX11_isWord cX11_isWord 2 (some .boolean) 11 1 := ⟨⟨_, rfl, rfl⟩, by decide, g_1406, gp_48, g_11, g_1407, by decide, by decide, by decide +kernel⟩
theorem yV_X11_keeps : YV yX11_keeps cX11_keeps 2 none 11 0 := ⟨⟨_, rfl, rfl⟩, by decide, g_1785, gp_97, g_11, g_1786, by decide, by decide, by decide +kernel⟩
theorem yV_X11_known : YV yX11_known cX11_known 3 (some .int) 11 1 := ⟨⟨_, rfl, rfl⟩, by decide, g_1495, gp_63, g_11, g_1496, by decide, by decide, by decide +kernel⟩
theorem yV_X11_laysWays : YV yX11_laysWays cX11_laysWays 7 none 11 3 := ⟨⟨_, rfl, rfl⟩, by decide, g_1685, gp_85, g_11, g_1686, by decide, by decide, by decide +kernel⟩
theorem yV_X11_lost : YV yX11_lost cX11_lost 2 (some .int) 11 1 := ⟨⟨_, rfl, rfl⟩, by decide, g_1617, gp_78, g_11, g_1618, by decide, by decide, by decide +kernel⟩
theorem yV_X11_meanOf : YV yX11_meanOf cX11_meanOf 7 (some .long) 11 5 := ⟨⟨_, rfl, rfl⟩, by decide, g_1705, gp_87, g_11, g_1706, by decide, by decide, by decide +kernel⟩
theorem yV_X11_names : YV yX11_names cX11_names 5 none 11 3 := ⟨⟨_, rfl, rfl⟩, by decide, g_1487, gp_61, g_11, g_1488, by decide, by decide, by decide +kernel⟩
theorem yV_X11_needs : YV yX11_needs cX11_needs 2 none 11 1 := ⟨⟨_, rfl, rfl⟩, by decide, g_1428, gp_52, g_11, g_1429, by decide, by decide, by decide +kernel⟩
theorem yV_X11_partsOf : YV yX11_partsOf cX11_partsOf 7 (some .long) 11 6 := ⟨⟨_, rfl, rfl⟩, by decide, g_1556, gp_73, g_11, g_1557, by decide, by decide, by decide +kernel⟩
theorem yV_X11_rainsIn : YV yX11_rainsIn cX11_rainsIn 3 (some .boolean) 11 1 := ⟨⟨_, rfl, rfl⟩, by decide, g_1789, gp_98, g_11, g_1790, by decide, by decide, by decide +kernel⟩
theorem yV_X11_readAll : YV yX11_readAll cX11_readAll 2 none 11 0 := ⟨⟨_, rfl, rfl⟩, by decide, g_1397, gp_46, g_11, g_1398, by decide, by decide, by decide +kernel⟩
theorem yV_X11_readFresh : YV yX11_readFresh cX11_readFresh 3 (some .long) 11 0 := ⟨⟨_, rfl, rfl⟩, by decide, g_1465, gp_58, g_11, g_1466, by decide, by decide, by decide +kernel⟩
theorem yV_X11_readLine : YV yX11_readLine cX11_readLine 1 none 11 0 := ⟨⟨_, rfl, rfl⟩, by decide, g_1401, gp_47, g_11, g_1402, by decide, by decide, by decide +kernel⟩
theorem yV_X11_readPart : YV yX11_readPart cX11_readPart 4 (some .int) 11 3 := ⟨⟨_, rfl, rfl⟩, by decide, g_1424, gp_51, g_11, g_1425, by decide, by decide, by decide +kernel⟩
theorem yV_X11_readPlace : YV yX11_readPlace cX11_readPlace 5 none 11 0 := ⟨⟨_, rfl, rfl⟩, by decide, g_1461, gp_57, g_11, g_1462, by decide, by decide, by decide +kernel⟩
theorem yV_X11_readRain : YV yX11_readRain cX11_readRain 6 none 11 0 := ⟨⟨_, rfl, rfl⟩, by decide, g_1440, gp_54, g_11, g_1441, by decide, by decide, by decide +kernel⟩
theorem yV_X11_readRoad : YV yX11_readRoad cX11_readRoad 7 none 11 0 := ⟨⟨_, rfl, rfl⟩, by decide, g_1491, gp_62, g_11, g_1492, by decide, by decide, by decide +kernel⟩
theorem yV_X11_readSeen : YV yX11_readSeen cX11_readSeen 4 none 11 0 := ⟨⟨_, rfl, rfl⟩, by decide, g_1512, gp_65, g_11, g_1513, by decide, by decide, by decide +kernel⟩
theorem yV_X11_readSide : YV yX11_readSide cX11_readSide 2 (some .int) 11 0 := ⟨⟨_, rfl, rfl⟩, by decide, g_1451, gp_56, g_11, g_1452, by decide, by decide, by decide +kernel⟩
theorem yV_X11_readWalker : YV yX11_readWalker cX11_readWalker 12 none 11 0 := ⟨⟨_, rfl, rfl⟩, by decide, g_1499, gp_64, g_11, g_1500, by decide, by decide, by decide +kernel⟩
theorem yV_X11_readWhole : YV yX11_readWhole cX11_readWhole 4 (some .int) 11 2 := ⟨⟨_, rfl, rfl⟩, by decide, g_1432, gp_53, g_11, g_1433, by decide, by decide, by decide +kernel⟩
theorem yV_X11_readWorld : YV yX11_readWorld cX11_readWorld 2 none 11 0 := ⟨⟨_, rfl, rfl⟩, by decide, g_1415, gp_49, g_11, g_1416, by decide, by decide, by decide +kernel⟩
theorem yV_X11_refused : YV yX11_refused cX11_refused 2 (some .int) 11 1 := ⟨⟨_, rfl, rfl⟩, by decide, g_1252, gp_43, g_11, g_1253, by decide, by decide, by decide +kernel⟩
theorem yV_X11_refuses : YV yX11_refuses cX11_refuses 6 (some .int) 11 5 := ⟨⟨_, rfl, rfl⟩, by decide, g_1536, gp_68, g_11, g_1537, by decide, by decide, by decide +kernel⟩
theorem yV_X11_refusesTwo : YV yX11_refusesTwo cX11_refusesTwo 8 (some .int) 11 6 := ⟨⟨_, rfl, rfl⟩, by decide, g_1661, gp_81, g_11, g_1662, by decide, by decide, by decide +kernel⟩
theorem yV_X11_refusesWay : YV yX11_refusesWay cX11_refusesWay 6 (some .int) 11 5 := ⟨⟨_, rfl, rfl⟩, by decide, g_1677, gp_83, g_11, g_1678, by decide, by decide, by decide +kernel⟩
theorem yV_X11_stepOf : YV yX11_stepOf cX11_stepOf 9 (some .int) 11 4 := ⟨⟨_, rfl, rfl⟩, by decide, g_1737, gp_93, g_11, g_1738, by decide, by decide, by decide +kernel⟩
theorem yV_X11_takes : YV yX11_takes cX11_takes 8 none 11 4 := ⟨⟨_, rfl, rfl⟩, by decide, g_1713, gp_89, g_11, g_1714, by decide, by decide, by decide +kernel⟩
theorem yV_X11_together : YV yX11_together cX11_together 10 (some .long) 11 6 := ⟨⟨_, rfl, rfl⟩, by decide, g_1665, gp_82, g_11, g_1666, by decide, by decide, by decide +kernel⟩
theorem yV_X11_told : YV yX11_told cX11_told 12 (some .long) 11 3 := ⟨⟨_, rfl, rfl⟩, by decide, g_1588, gp_76, g_11, g_1589, by decide, by decide, by decide +kernel⟩
theorem yV_X11_tries : YV yX11_tries cX11_tries 9 none 11 4 := ⟨⟨_, rfl, rfl⟩, by decide, g_1693, gp_86, g_11, g_1694, by decide, by decide, by decide +kernel⟩
theorem yV_X11_waitsOf : YV yX11_waitsOf cX11_waitsOf 5 (some .long) 11 3 := ⟨⟨_, rfl, rfl⟩, by decide, g_1721, gp_91, g_11, g_1722, by decide, by decide, by decide +kernel⟩
theorem yV_X11_wetAtBest : YV yX11_wetAtBest cX11_wetAtBest 5 (some .long) 11 4 := ⟨⟨_, rfl, rfl⟩, by decide, g_1649, gp_80, g_11, g_1650, by decide, by decide, by decide +kernel⟩
theorem yV_X11_wetOf : YV yX11_wetOf cX11_wetOf 9 (some .long) 11 5 := ⟨⟨_, rfl, rfl⟩, by decide, g_1596, gp_77, g_11, g_1597, by decide, by decide, by decide +kernel⟩
theorem yV_X1_bestSpeed : YV yX1_bestSpeed cX1_bestSpeed 11 (some .int) 1 4 := ⟨⟨_, rfl, rfl⟩, by decide, g_761, g_762, g_7, g_763, by decide, by decide, by decide +kernel⟩
theorem yV_X1_countFits : YV yX1_countFits cX1_countFits 5 (some .int) 1 2 := ⟨⟨_, rfl, rfl⟩, by decide, g_934, g_935, g_7, g_936, by decide, by decide, by decide +kernel⟩
theorem yV_X1_findFit : YV yX1_findFit cX1_findFit 7 (some .int) 1 3 := ⟨⟨_, rfl, rfl⟩, by decide, g_954, g_955, g_7, g_956, by decide, by decide, by decide +kernel⟩
theorem yV_X1_fitCode : YV yX1_fitCode cX1_fitCode 9 (some .int) 1 3 := ⟨⟨_, rfl, rfl⟩, by decide, g_942, gp_40, g_7, g_943, by decide, by decide, by decide +kernel⟩
theorem yV_X1_isForward : YV yX1_isForward cX1_isForward 6 (some .boolean) 1 1 := ⟨⟨_, rfl, rfl⟩, by decide, g_713, g_714, g_7, g_715, by decide, by decide, by decide +kernel⟩
theorem yV_X1_lay : YV yX1_lay cX1_lay 11 none 1 4 := ⟨⟨_, rfl, rfl⟩, by decide, g_693, g_694, g_7, g_695, by decide, by decide, by decide +kernel⟩
theorem yV_X1_leastWet : YV yX1_leastWet cX1_leastWet 5 (some .long) 1 4 := ⟨⟨_, rfl, rfl⟩, by decide, g_771, g_772, g_7, g_773, by decide, by decide, by decide +kernel⟩
theorem yV_X1_soak : YV yX1_soak cX1_soak 7 (some .long) 1 3 := ⟨⟨_, rfl, rfl⟩, by decide, g_710, gp_30, g_7, g_711, by decide, by decide, by decide +kernel⟩
theorem yV_X1_wetInLee : YV yX1_wetInLee cX1_wetInLee 3 (some .long) 1 2 := ⟨⟨_, rfl, rfl⟩, by decide, g_806, g_807, g_7, g_808, by decide, by decide, by decide +kernel⟩
theorem yV_X1_wetOf : YV yX1_wetOf cX1_wetOf 6 (some .long) 1 5 := ⟨⟨_, rfl, rfl⟩, by decide, g_689, g_690, g_7, g_691, by decide, by decide, by decide +kernel⟩
theorem yV_X1_worstSpeed : YV yX1_worstSpeed cX1_worstSpeed 11 (some .int) 1 4 := ⟨⟨_, rfl, rfl⟩, by decide, g_780, g_781, g_7, g_782, by decide, by decide, by decide +kernel⟩
theorem yV_X2_addFaces : YV yX2_addFaces cX2_addFaces 3 none 2 1 := ⟨⟨_, rfl, rfl⟩, by decide, g_1000, g_1001, g_10, g_1002, by decide, by decide, by decide +kernel⟩
theorem yV_X2_allGot : YV yX2_allGot cX2_allGot 4 (some .long) 2 0 := ⟨⟨_, rfl, rfl⟩, by decide, g_1023, g_1024, g_10, g_1025, by decide, by decide, by decide +kernel⟩
theorem yV_X2_copy : YV yX2_copy cX2_copy 3 none 2 1 := ⟨⟨_, rfl, rfl⟩, by decide, g_991, g_992, g_10, g_993, by decide, by decide, by decide +kernel⟩
theorem yV_X4_bodyOf : YV yX4_bodyOf cX4_bodyOf 5 (some .boolean) 4 1 := ⟨⟨_, rfl, rfl⟩, by decide, g_602, gp_22, g_6, g_603, by decide, by decide, by decide +kernel⟩
theorem yV_X4_canBeName : YV yX4_canBeName cX4_canBeName 2 (some .boolean) 4 0 := ⟨⟨_, rfl, rfl⟩, by decide, g_568, gp_16, g_6, g_569, by decide, by decide, by decide +kernel⟩
theorem yV_X4_exchange : YV yX4_exchange cX4_exchange 3 (some (.object "RainWalk$World")) 4 1 := ⟨⟨_, rfl, rfl⟩, by decide, g_626, g_627, g_6, g_628, by decide, by decide, by decide +kernel⟩
theorem yV_X4_fail : YV yX4_fail cX4_fail 2 (some .boolean) 4 1 := ⟨⟨_, rfl, rfl⟩, by decide, g_521, gp_7, g_6, g_522, by decide, by decide, by decide +kernel⟩
theorem yV_X4_findName : YV yX4_findName cX4_findName 2 (some .int) 4 0 := ⟨⟨_, rfl, rfl⟩, by decide, g_578, gp_17, g_6, g_579, by decide, by decide, by decide +kernel⟩
theorem yV_X4_hasRoom : YV yX4_hasRoom cX4_hasRoom 3 (some .boolean) 4 2 := ⟨⟨_, rfl, rfl⟩, by decide, g_539, gp_11, g_6, g_540, by decide, by decide, by decide +kernel⟩
theorem yV_X4_is : YV yX4_is cX4_is 5 (some .boolean) 4 1 := ⟨⟨_, rfl, rfl⟩, by decide, g_460, gp_5, g_6, g_461, by decide, by decide, by decide +kernel⟩
theorem yV_X4_kindOf : YV yX4_kindOf cX4_kindOf 3 (some .boolean) 4 1 := ⟨⟨_, rfl, rfl⟩, by decide, g_594, gp_21, g_6, g_595, by decide, by decide, by decide +kernel⟩
theorem yV_X4_newName : YV yX4_newName cX4_newName 2 (some .boolean) 4 1 := ⟨⟨_, rfl, rfl⟩, by decide, g_564, gp_15, g_6, g_565, by decide, by decide, by decide +kernel⟩
theorem yV_X4_next : YV yX4_next cX4_next 5 none 4 0 := ⟨⟨_, rfl, rfl⟩, by decide, g_451, gp_3, g_6, g_452, by decide, by decide, by decide +kernel⟩
theorem yV_X4_open : YV yX4_open cX4_open 3 none 4 2 := ⟨⟨_, rfl, rfl⟩, by decide, g_440, gp_2, g_6, g_441, by decide, by decide, by decide +kernel⟩
theorem yV_X4_placeBut : YV yX4_placeBut cX4_placeBut 3 (some .boolean) 4 1 := ⟨⟨_, rfl, rfl⟩, by decide, g_586, gp_19, g_6, g_587, by decide, by decide, by decide +kernel⟩
theorem yV_X4_placeLine : YV yX4_placeLine cX4_placeLine 2 (some .boolean) 4 0 := ⟨⟨_, rfl, rfl⟩, by decide, g_560, gp_14, g_6, g_561, by decide, by decide, by decide +kernel⟩
theorem yV_X4_rainLine : YV yX4_rainLine cX4_rainLine 2 (some .boolean) 4 0 := ⟨⟨_, rfl, rfl⟩, by decide, g_543, gp_12, g_6, g_544, by decide, by decide, by decide +kernel⟩
theorem yV_X4_read : YV yX4_read cX4_read 5 (some .boolean) 4 2 := ⟨⟨_, rfl, rfl⟩, by decide, g_435, g_436, g_6, g_437, by decide, by decide, by decide +kernel⟩
theorem yV_X4_roadLine : YV yX4_roadLine cX4_roadLine 2 (some .boolean) 4 0 := ⟨⟨_, rfl, rfl⟩, by decide, g_582, gp_18, g_6, g_583, by decide, by decide, by decide +kernel⟩
theorem yV_X4_seenLine : YV yX4_seenLine cX4_seenLine 2 (some .boolean) 4 0 := ⟨⟨_, rfl, rfl⟩, by decide, g_615, gp_23, g_6, g_616, by decide, by decide, by decide +kernel⟩
theorem yV_X4_side : YV yX4_side cX4_side 1 (some .boolean) 4 0 := ⟨⟨_, rfl, rfl⟩, by decide, g_550, gp_13, g_6, g_551, by decide, by decide, by decide +kernel⟩
theorem yV_X4_sign : YV yX4_sign cX4_sign 2 (some .boolean) 4 1 := ⟨⟨_, rfl, rfl⟩, by decide, g_623, gp_25, g_6, g_624, by decide, by decide, by decide +kernel⟩
theorem yV_X4_someWalker : YV yX4_someWalker cX4_someWalker 2 (some .boolean) 4 0 := ⟨⟨_, rfl, rfl⟩, by decide, g_619, gp_24, g_6, g_620, by decide, by decide, by decide +kernel⟩
theorem yV_X4_sortAt : YV yX4_sortAt cX4_sortAt 3 (some .int) 4 1 := ⟨⟨_, rfl, rfl⟩, by decide, g_455, gp_4, g_6, g_456, by decide, by decide, by decide +kernel⟩
theorem yV_X4_walkerLine : YV yX4_walkerLine cX4_walkerLine 2 (some .boolean) 4 0 := ⟨⟨_, rfl, rfl⟩, by decide, g_590, gp_20, g_6, g_591, by decide, by decide, by decide +kernel⟩
theorem yV_X4_whole : YV yX4_whole cX4_whole 3 (some .boolean) 4 2 := ⟨⟨_, rfl, rfl⟩, by decide, g_534, gp_10, g_6, g_535, by decide, by decide, by decide +kernel⟩
theorem yV_X4_word : YV yX4_word cX4_word 2 (some .boolean) 4 1 := ⟨⟨_, rfl, rfl⟩, by decide, g_530, gp_9, g_6, g_531, by decide, by decide, by decide +kernel⟩
theorem yV_X4_wordAndWhole : YV yX4_wordAndWhole cX4_wordAndWhole 4 (some .boolean) 4 3 := ⟨⟨_, rfl, rfl⟩, by decide, g_526, gp_8, g_6, g_527, by decide, by decide, by decide +kernel⟩
theorem yV_X4_worldLine : YV yX4_worldLine cX4_worldLine 1 (some .boolean) 4 0 := ⟨⟨_, rfl, rfl⟩, by decide, g_513, gp_6, g_6, g_514, by decide, by decide, by decide +kernel⟩
theorem yV_X5_airAlong : YV yX5_airAlong cX5_airAlong 4 (some .int) 5 2 := ⟨⟨_, rfl, rfl⟩, by decide, g_701, g_702, g_4, g_703, by decide, by decide, by decide +kernel⟩
theorem yV_X5_endOf : YV yX5_endOf cX5_endOf 2 (some .int) 5 1 := ⟨⟨_, rfl, rfl⟩, by decide, g_863, g_864, g_4, g_865, by decide, by decide, by decide +kernel⟩
theorem yV_X5_minutesAt : YV yX5_minutesAt cX5_minutesAt 2 (some .int) 5 1 := ⟨⟨_, rfl, rfl⟩, by decide, g_742, g_743, g_4, g_744, by decide, by decide, by decide +kernel⟩
theorem yV_X5_startOf : YV yX5_startOf cX5_startOf 2 (some .int) 5 1 := ⟨⟨_, rfl, rfl⟩, by decide, g_859, g_860, g_4, g_861, by decide, by decide, by decide +kernel⟩
theorem yV_X5_tell : YV yX5_tell cX5_tell 2 (some .int) 5 1 := ⟨⟨_, rfl, rfl⟩, by decide, g_1073, g_1074, g_4, g_1075, by decide, by decide, by decide +kernel⟩
theorem yV_X5_turnOf : YV yX5_turnOf cX5_turnOf 4 (some .int) 5 2 := ⟨⟨_, rfl, rfl⟩, by decide, g_697, g_698, g_4, g_699, by decide, by decide, by decide +kernel⟩
theorem yV_X6_canGo : YV yX6_canGo cX6_canGo 2 (some .boolean) 6 1 := ⟨⟨_, rfl, rfl⟩, by decide, g_680, g_681, g_5, g_682, by decide, by decide, by decide +kernel⟩
theorem yV_X6_shape : YV yX6_shape cX6_shape 5 none 6 3 := ⟨⟨_, rfl, rfl⟩, by decide, g_608, g_609, g_5, g_610, by decide, by decide, by decide +kernel⟩
theorem yV_X6_shield : YV yX6_shield cX6_shield 1 (some .int) 6 0 := ⟨⟨_, rfl, rfl⟩, by decide, g_717, g_718, g_5, g_719, by decide, by decide, by decide +kernel⟩
theorem yV_X6_tell : YV yX6_tell cX6_tell 2 (some .int) 6 1 := ⟨⟨_, rfl, rfl⟩, by decide, g_1065, g_1066, g_5, g_1067, by decide, by decide, by decide +kernel⟩
theorem yV_X7_addLeg : YV yX7_addLeg cX7_addLeg 9 none 7 5 := ⟨⟨_, rfl, rfl⟩, by decide, g_854, gp_36, g_8, g_855, by decide, by decide, by decide +kernel⟩
theorem yV_X7_addMove : YV yX7_addMove cX7_addMove 7 none 7 5 := ⟨⟨_, rfl, rfl⟩, by decide, g_868, gp_37, g_8, g_869, by decide, by decide, by decide +kernel⟩
theorem yV_X7_endFrom : YV yX7_endFrom cX7_endFrom 3 (some .int) 7 2 := ⟨⟨_, rfl, rfl⟩, by decide, g_905, g_906, g_8, g_907, by decide, by decide, by decide +kernel⟩
theorem yV_X7_forget : YV yX7_forget cX7_forget 1 none 7 0 := ⟨⟨_, rfl, rfl⟩, by decide, g_630, g_631, g_8, g_632, by decide, by decide, by decide +kernel⟩
theorem yV_X7_isOpen : YV yX7_isOpen cX7_isOpen 3 (some .boolean) 7 2 := ⟨⟨_, rfl, rfl⟩, by decide, g_889, g_890, g_8, g_891, by decide, by decide, by decide +kernel⟩
theorem yV_X7_keyOf : YV yX7_keyOf cX7_keyOf 4 (some .long) 7 2 := ⟨⟨_, rfl, rfl⟩, by decide, g_894, gp_39, g_8, g_895, by decide, by decide, by decide +kernel⟩
theorem yV_X7_makeRows : YV yX7_makeRows cX7_makeRows 1 none 7 0 := ⟨⟨_, rfl, rfl⟩, by decide, g_838, gp_34, g_8, g_839, by decide, by decide, by decide +kernel⟩
theorem yV_X7_meanFrom : YV yX7_meanFrom cX7_meanFrom 3 (some .long) 7 2 := ⟨⟨_, rfl, rfl⟩, by decide, g_897, g_898, g_8, g_899, by decide, by decide, by decide +kernel⟩
theorem yV_X7_price : YV yX7_price cX7_price 12 none 7 3 := ⟨⟨_, rfl, rfl⟩, by decide, g_847, gp_35, g_8, g_848, by decide, by decide, by decide +kernel⟩
theorem yV_X7_reckon : YV yX7_reckon cX7_reckon 9 none 7 6 := ⟨⟨_, rfl, rfl⟩, by decide, g_833, g_834, g_8, g_835, by decide, by decide, by decide +kernel⟩
theorem yV_X7_reckonMinute : YV yX7_reckonMinute cX7_reckonMinute 9 none 7 2 := ⟨⟨_, rfl, rfl⟩, by decide, g_885, gp_38, g_8, g_886, by decide, by decide, by decide +kernel⟩
theorem yV_X7_trace : YV yX7_trace cX7_trace 10 (some .int) 7 3 := ⟨⟨_, rfl, rfl⟩, by decide, g_913, g_914, g_8, g_915, by decide, by decide, by decide +kernel⟩
theorem yV_X8_canWait : YV yX8_canWait cX8_canWait 2 (some .boolean) 8 1 := ⟨⟨_, rfl, rfl⟩, by decide, g_871, g_872, g_2, g_873, by decide, by decide, by decide +kernel⟩
theorem yV_X8_clear : YV yX8_clear cX8_clear 1 none 8 0 := ⟨⟨_, rfl, rfl⟩, by decide, g_446, g_447, g_2, g_448, by decide, by decide, by decide +kernel⟩
theorem yV_X8_dripOn : YV yX8_dripOn cX8_dripOn 3 (some .int) 8 2 := ⟨⟨_, rfl, rfl⟩, by decide, g_876, g_877, g_2, g_878, by decide, by decide, by decide +kernel⟩
theorem yV_X8_hasHour : YV yX8_hasHour cX8_hasHour 2 (some .boolean) 8 1 := ⟨⟨_, rfl, rfl⟩, by decide, g_676, g_677, g_2, g_678, by decide, by decide, by decide +kernel⟩
theorem yV_X8_hasPlace : YV yX8_hasPlace cX8_hasPlace 2 (some .boolean) 8 1 := ⟨⟨_, rfl, rfl⟩, by decide, g_826, g_827, g_2, g_828, by decide, by decide, by decide +kernel⟩
theorem yV_X8_hasRoad : YV yX8_hasRoad cX8_hasRoad 2 (some .boolean) 8 1 := ⟨⟨_, rfl, rfl⟩, by decide, g_669, g_670, g_2, g_671, by decide, by decide, by decide +kernel⟩
theorem yV_X8_hasSeen : YV yX8_hasSeen cX8_hasSeen 2 (some .boolean) 8 1 := ⟨⟨_, rfl, rfl⟩, by decide, g_930, g_931, g_2, g_932, by decide, by decide, by decide +kernel⟩
theorem yV_X8_hasWalker : YV yX8_hasWalker cX8_hasWalker 2 (some .boolean) 8 1 := ⟨⟨_, rfl, rfl⟩, by decide, g_665, g_666, g_2, g_667, by decide, by decide, by decide +kernel⟩
theorem yV_X8_hourOf : YV yX8_hourOf cX8_hourOf 2 (some .int) 8 1 := ⟨⟨_, rfl, rfl⟩, by decide, g_841, g_842, g_2, g_843, by decide, by decide, by decide +kernel⟩
theorem yV_X8_isTold : YV yX8_isTold cX8_isTold 1 (some .boolean) 8 0 := ⟨⟨_, rfl, rfl⟩, by decide, g_516, g_517, g_2, g_518, by decide, by decide, by decide +kernel⟩
theorem yV_X9_grant : YV yX9_grant cX9_grant 2 (some .int) 9 1 := ⟨⟨_, rfl, rfl⟩, by decide, g_639, gp_26, g_1, g_640, by decide, by decide, by decide +kernel⟩
theorem yV_X9_leeTrouble : YV yX9_leeTrouble cX9_leeTrouble 8 (some .int) 9 6 := ⟨⟨_, rfl, rfl⟩, by decide, g_803, gp_31, g_1, g_804, by decide, by decide, by decide +kernel⟩
theorem yV_X9_legTrouble : YV yX9_legTrouble cX9_legTrouble 7 (some .int) 9 5 := ⟨⟨_, rfl, rfl⟩, by decide, g_658, gp_27, g_1, g_659, by decide, by decide, by decide +kernel⟩
theorem yV_X9_placesTrouble : YV yX9_placesTrouble cX9_placesTrouble 5 (some .int) 9 3 := ⟨⟨_, rfl, rfl⟩, by decide, g_823, gp_33, g_1, g_824, by decide, by decide, by decide +kernel⟩
theorem yV_X9_putBytes : YV yX9_putBytes cX9_putBytes 3 none 9 1 := ⟨⟨_, rfl, rfl⟩, by decide, g_424, gp_0, g_1, g_425, by decide, by decide, by decide +kernel⟩
theorem yV_X9_refuse : YV yX9_refuse cX9_refuse 2 (some .int) 9 1 := ⟨⟨_, rfl, rfl⟩, by decide, g_432, gp_1, g_1, g_433, by decide, by decide, by decide +kernel⟩
theorem yV_X9_refusedBy : YV yX9_refusedBy cX9_refusedBy 2 (some .boolean) 9 1 := ⟨⟨_, rfl, rfl⟩, by decide, g_685, gp_29, g_1, g_686, by decide, by decide, by decide +kernel⟩
theorem yV_X9_stayTrouble : YV yX9_stayTrouble cX9_stayTrouble 2 (some .int) 9 1 := ⟨⟨_, rfl, rfl⟩, by decide, g_1010, gp_41, g_1, g_1011, by decide, by decide, by decide +kernel⟩
theorem yV_X9_tripTrouble : YV yX9_tripTrouble cX9_tripTrouble 6 (some .int) 9 4 := ⟨⟨_, rfl, rfl⟩, by decide, g_662, gp_28, g_1, g_663, by decide, by decide, by decide +kernel⟩
theorem yV_X9_wayTrouble : YV yX9_wayTrouble cX9_wayTrouble 7 (some .int) 9 5 := ⟨⟨_, rfl, rfl⟩, by decide, g_819, gp_32, g_1, g_820, by decide, by decide, by decide +kernel⟩
