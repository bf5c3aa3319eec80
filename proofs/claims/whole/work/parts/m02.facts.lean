theorem kc_X0 : Kc 0 RX0 TX0 9 tyX0 := ⟨rfl, big_ws (lt_s (lt_s (lt_s (lt_s (lt_s (lt_s (lt_s (lt_s (lt_s lt_0 w_0) w_1) w_2) w_3) w_4) w_5) w_6) w_7) w_8), tyX0_ok, nmX0⟩
theorem fg_X0_9 : Fg RX0 9 0 3 (.array .long) true true := ⟨_, _, _, _, kc_X0, by decide, w_9, by decide +kernel, rfl, fun _ => rfl⟩
theorem fg_X0_15 : Fg RX0 15 0 4 (.array .long) true true := ⟨_, _, _, _, kc_X0, by decide, w_10, by decide +kernel, rfl, fun _ => rfl⟩
theorem fg_X0_18 : Fg RX0 18 0 5 (.array .int) true true := ⟨_, _, _, _, kc_X0, by decide, w_11, by decide +kernel, rfl, fun _ => rfl⟩
theorem fg_X0_22 : Fg RX0 22 0 6 (.int) false true := ⟨_, _, _, _, kc_X0, by decide, w_12, by decide +kernel, rfl, fun _ => rfl⟩
theorem fg_X0_26 : Fg RX0 26 0 7 (.int) false true := ⟨_, _, _, _, kc_X0, by decide, w_13, by decide +kernel, rfl, fun _ => rfl⟩
theorem fg_X0_29 : Fg RX0 29 0 8 (.int) false true := ⟨_, _, _, _, kc_X0, by decide, w_14, by decide +kernel, rfl, fun _ => rfl⟩
theorem fg_X0_32 : Fg RX0 32 0 0 (.object "GalleryGuards$Plan") true true := ⟨_, _, _, _, kc_X0, by decide, w_15, by decide +kernel, rfl, fun _ => rfl⟩
theorem fg_X0_36 : Fg RX0 36 0 1 (.object "GalleryGuards$Lattice") true true := ⟨_, _, _, _, kc_X0, by decide, w_16, by decide +kernel, rfl, fun _ => rfl⟩
theorem fg_X0_40 : Fg RX0 40 0 2 (.object "GalleryGuards$Sight") true true := ⟨_, _, _, _, kc_X0, by decide, w_17, by decide +kernel, rfl, fun _ => rfl⟩
theorem kc_X6 : Kc 5 RX6 TX6 11 tyX6 := ⟨rfl, big_ws (lt_s (lt_s (lt_s (lt_s (lt_s (lt_s (lt_s (lt_s (lt_s (lt_s (lt_s lt_0 w_18) w_19) w_20) w_21) w_22) w_23) w_24) w_25) w_26) w_27) w_28), tyX6_ok, nmX6⟩
theorem fg_X0_44 : Fg RX0 44 5 0 (.int) false false := ⟨_, _, _, _, kc_X6, by decide, w_29, by decide +kernel, rfl, fun h => nomatch h⟩
theorem kc_X3 : Kc 3 RX3 TX3 5 tyX3 := ⟨rfl, big_ws (lt_s (lt_s (lt_s (lt_s (lt_s lt_0 w_30) w_31) w_32) w_33) w_34), tyX3_ok, nmX3⟩
theorem fg_X0_100 : Fg RX0 100 3 0 (.int) false false := ⟨_, _, _, _, kc_X3, by decide, w_35, by decide +kernel, rfl, fun h => nomatch h⟩
theorem kc_X1 : Kc 1 RX1 TX1 3 tyX1 := ⟨rfl, big_ws (lt_s (lt_s (lt_s lt_0 w_37) w_38) w_39), tyX1_ok, nmX1⟩
theorem fg_X1_9 : Fg RX1 9 1 0 (.int) false true := ⟨_, _, _, _, kc_X1, by decide, w_40, by decide +kernel, rfl, fun _ => rfl⟩
theorem fg_X1_15 : Fg RX1 15 1 1 (.int) false true := ⟨_, _, _, _, kc_X1, by decide, w_41, by decide +kernel, rfl, fun _ => rfl⟩
theorem fg_X1_20 : Fg RX1 20 1 2 (.array (.object "GalleryGuards$Plan")) true true := ⟨_, _, _, _, kc_X1, by decide, w_42, by decide +kernel, rfl, fun _ => rfl⟩
theorem kc_X2 : Kc 2 RX2 TX2 7 tyX2 := ⟨rfl, big_ws (lt_s (lt_s (lt_s (lt_s (lt_s (lt_s (lt_s lt_0 w_43) w_44) w_45) w_46) w_47) w_48) w_49), tyX2_ok, nmX2⟩
theorem fg_X2_9 : Fg RX2 9 2 0 (.int) false true := ⟨_, _, _, _, kc_X2, by decide, w_50, by decide +kernel, rfl, fun _ => rfl⟩
theorem fg_X2_15 : Fg RX2 15 2 1 (.int) false true := ⟨_, _, _, _, kc_X2, by decide, w_51, by decide +kernel, rfl, fun _ => rfl⟩
theorem fg_X2_18 : Fg RX2 18 2 2 (.int) false true := ⟨_, _, _, _, kc_X2, by decide, w_52, by decide +kernel, rfl, fun _ => rfl⟩
theorem fg_X2_21 : Fg RX2 21 2 3 (.int) false true := ⟨_, _, _, _, kc_X2, by decide, w_53, by decide +kernel, rfl, fun _ => rfl⟩
theorem fg_X2_24 : Fg RX2 24 2 4 (.int) false true := ⟨_, _, _, _, kc_X2, by decide, w_54, by decide +kernel, rfl, fun _ => rfl⟩
theorem fg_X2_27 : Fg RX2 27 2 5 (.int) false true := ⟨_, _, _, _, kc_X2, by decide, w_55, by decide +kernel, rfl, fun _ => rfl⟩
theorem fg_X2_30 : Fg RX2 30 2 6 (.array .int) true true := ⟨_, _, _, _, kc_X2, by decide, w_56, by decide +kernel, rfl, fun _ => rfl⟩
theorem fg_X3_9 : Fg RX3 9 3 0 (.int) false true := ⟨_, _, _, _, kc_X3, by decide, w_57, by decide +kernel, rfl, fun _ => rfl⟩
theorem fg_X3_15 : Fg RX3 15 3 1 (.long) false true := ⟨_, _, _, _, kc_X3, by decide, w_58, by decide +kernel, rfl, fun _ => rfl⟩
theorem fg_X3_19 : Fg RX3 19 3 2 (.array .int) true true := ⟨_, _, _, _, kc_X3, by decide, w_59, by decide +kernel, rfl, fun _ => rfl⟩
theorem fg_X3_23 : Fg RX3 23 3 3 (.array .int) true true := ⟨_, _, _, _, kc_X3, by decide, w_60, by decide +kernel, rfl, fun _ => rfl⟩
theorem fg_X3_26 : Fg RX3 26 3 4 (.array .int) true true := ⟨_, _, _, _, kc_X3, by decide, w_61, by decide +kernel, rfl, fun _ => rfl⟩
theorem fg_X3_37 : Fg RX3 37 5 1 (.int) false false := ⟨_, _, _, _, kc_X6, by decide, w_62, by decide +kernel, rfl, fun h => nomatch h⟩
theorem fg_X3_53 : Fg RX3 53 5 2 (.int) false false := ⟨_, _, _, _, kc_X6, by decide, w_63, by decide +kernel, rfl, fun h => nomatch h⟩
theorem fg_X4_24 : Fg RX4 24 5 0 (.int) false false := ⟨_, _, _, _, kc_X6, by decide, w_65, by decide +kernel, rfl, fun h => nomatch h⟩
theorem kc_X5 : Kc 4 RX5 TX5 5 tyX5 := ⟨rfl, big_ws (lt_s (lt_s (lt_s (lt_s (lt_s lt_0 w_66) w_67) w_68) w_69) w_70), tyX5_ok, nmX5⟩
theorem fg_X5_9 : Fg RX5 9 4 3 (.int) false true := ⟨_, _, _, _, kc_X5, by decide, w_71, by decide +kernel, rfl, fun _ => rfl⟩
theorem fg_X5_15 : Fg RX5 15 4 4 (.int) false true := ⟨_, _, _, _, kc_X5, by decide, w_72, by decide +kernel, rfl, fun _ => rfl⟩
theorem fg_X5_18 : Fg RX5 18 4 0 (.object "GalleryGuards$Input") true true := ⟨_, _, _, _, kc_X5, by decide, w_73, by decide +kernel, rfl, fun _ => rfl⟩
theorem fg_X5_22 : Fg RX5 22 4 1 (.object "GalleryGuards$Plan") true true := ⟨_, _, _, _, kc_X5, by decide, w_74, by decide +kernel, rfl, fun _ => rfl⟩
theorem fg_X5_26 : Fg RX5 26 4 2 (.object "GalleryGuards$Lattice") true true := ⟨_, _, _, _, kc_X5, by decide, w_75, by decide +kernel, rfl, fun _ => rfl⟩
theorem fg_X5_57 : Fg RX5 57 2 1 (.int) false false := ⟨_, _, _, _, kc_X2, by decide, w_76, by decide +kernel, rfl, fun h => nomatch h⟩
theorem fg_X5_85 : Fg RX5 85 5 1 (.int) false false := ⟨_, _, _, _, kc_X6, by decide, w_77, by decide +kernel, rfl, fun h => nomatch h⟩
theorem fg_X5_93 : Fg RX5 93 5 2 (.int) false false := ⟨_, _, _, _, kc_X6, by decide, w_78, by decide +kernel, rfl, fun h => nomatch h⟩
theorem fg_X5_101 : Fg RX5 101 2 3 (.int) false false := ⟨_, _, _, _, kc_X2, by decide, w_79, by decide +kernel, rfl, fun h => nomatch h⟩
theorem fg_X6_9 : Fg RX6 9 5 0 (.int) false true := ⟨_, _, _, _, kc_X6, by decide, w_80, by decide +kernel, rfl, fun _ => rfl⟩
theorem fg_X6_15 : Fg RX6 15 5 1 (.int) false true := ⟨_, _, _, _, kc_X6, by decide, w_81, by decide +kernel, rfl, fun _ => rfl⟩
theorem fg_X6_18 : Fg RX6 18 5 2 (.int) false true := ⟨_, _, _, _, kc_X6, by decide, w_82, by decide +kernel, rfl, fun _ => rfl⟩
theorem fg_X6_21 : Fg RX6 21 5 3 (.array .int) true true := ⟨_, _, _, _, kc_X6, by decide, w_83, by decide +kernel, rfl, fun _ => rfl⟩
theorem fg_X6_25 : Fg RX6 25 5 4 (.array .int) true true := ⟨_, _, _, _, kc_X6, by decide, w_84, by decide +kernel, rfl, fun _ => rfl⟩
theorem fg_X6_28 : Fg RX6 28 5 5 (.array .int) true true := ⟨_, _, _, _, kc_X6, by decide, w_85, by decide +kernel, rfl, fun _ => rfl⟩
theorem fg_X6_31 : Fg RX6 31 5 6 (.array .int) true true := ⟨_, _, _, _, kc_X6, by decide, w_86, by decide +kernel, rfl, fun _ => rfl⟩
theorem fg_X6_34 : Fg RX6 34 5 7 (.array .int) true true := ⟨_, _, _, _, kc_X6, by decide, w_87, by decide +kernel, rfl, fun _ => rfl⟩
theorem fg_X6_37 : Fg RX6 37 5 8 (.array .int) true true := ⟨_, _, _, _, kc_X6, by decide, w_88, by decide +kernel, rfl, fun _ => rfl⟩
theorem fg_X6_40 : Fg RX6 40 5 9 (.array .int) true true := ⟨_, _, _, _, kc_X6, by decide, w_89, by decide +kernel, rfl, fun _ => rfl⟩
theorem fg_X6_43 : Fg RX6 43 5 10 (.array .int) true true := ⟨_, _, _, _, kc_X6, by decide, w_90, by decide +kernel, rfl, fun _ => rfl⟩
theorem kc_X7 : Kc 6 RX7 TX7 4 tyX7 := ⟨rfl, big_ws (lt_s (lt_s (lt_s (lt_s lt_0 w_91) w_92) w_93) w_94), tyX7_ok, nmX7⟩
theorem fg_X7_9 : Fg RX7 9 6 2 (.array .long) true true := ⟨_, _, _, _, kc_X7, by decide, w_95, by decide +kernel, rfl, fun _ => rfl⟩
theorem fg_X7_15 : Fg RX7 15 6 3 (.boolean) false true := ⟨_, _, _, _, kc_X7, by decide, w_96, by decide +kernel, rfl, fun _ => rfl⟩
theorem fg_X7_19 : Fg RX7 19 6 0 (.object "GalleryGuards$Plan") true true := ⟨_, _, _, _, kc_X7, by decide, w_97, by decide +kernel, rfl, fun _ => rfl⟩
theorem fg_X7_23 : Fg RX7 23 6 1 (.object "GalleryGuards$Lattice") true true := ⟨_, _, _, _, kc_X7, by decide, w_98, by decide +kernel, rfl, fun _ => rfl⟩
theorem fg_X7_31 : Fg RX7 31 3 0 (.int) false false := ⟨_, _, _, _, kc_X3, by decide, w_99, by decide +kernel, rfl, fun h => nomatch h⟩
theorem fg_X7_56 : Fg RX7 56 5 0 (.int) false false := ⟨_, _, _, _, kc_X6, by decide, w_100, by decide +kernel, rfl, fun h => nomatch h⟩
theorem kc_X8 : Kc 7 RX8 TX8 5 tyX8 := ⟨rfl, big_ws (lt_s (lt_s (lt_s (lt_s (lt_s lt_0 w_102) w_103) w_104) w_105) w_106), tyX8_ok, nmX8⟩
theorem fg_X8_9 : Fg RX8 9 7 1 (.array .long) true true := ⟨_, _, _, _, kc_X8, by decide, w_107, by decide +kernel, rfl, fun _ => rfl⟩
theorem fg_X8_15 : Fg RX8 15 7 2 (.array .int) true true := ⟨_, _, _, _, kc_X8, by decide, w_108, by decide +kernel, rfl, fun _ => rfl⟩
theorem fg_X8_19 : Fg RX8 19 7 3 (.int) false true := ⟨_, _, _, _, kc_X8, by decide, w_109, by decide +kernel, rfl, fun _ => rfl⟩
theorem fg_X8_23 : Fg RX8 23 7 4 (.int) false true := ⟨_, _, _, _, kc_X8, by decide, w_110, by decide +kernel, rfl, fun _ => rfl⟩
theorem fg_X8_26 : Fg RX8 26 7 0 (.object "GalleryGuards$Sight") true true := ⟨_, _, _, _, kc_X8, by decide, w_111, by decide +kernel, rfl, fun _ => rfl⟩
theorem kc_X9 : Kc 8 RX9 TX9 9 tyX9 := ⟨rfl, big_ws (lt_s (lt_s (lt_s (lt_s (lt_s (lt_s (lt_s (lt_s (lt_s lt_0 w_113) w_114) w_115) w_116) w_117) w_118) w_119) w_120) w_121), tyX9_ok, nmX9⟩
theorem fg_X9_9 : Fg RX9 9 8 1 (.array .int) true true := ⟨_, _, _, _, kc_X9, by decide, w_122, by decide +kernel, rfl, fun _ => rfl⟩
theorem fg_X9_15 : Fg RX9 15 8 2 (.array .int) true true := ⟨_, _, _, _, kc_X9, by decide, w_123, by decide +kernel, rfl, fun _ => rfl⟩
theorem fg_X9_18 : Fg RX9 18 8 3 (.array .int) true true := ⟨_, _, _, _, kc_X9, by decide, w_124, by decide +kernel, rfl, fun _ => rfl⟩
theorem fg_X9_21 : Fg RX9 21 8 4 (.array .int) true true := ⟨_, _, _, _, kc_X9, by decide, w_125, by decide +kernel, rfl, fun _ => rfl⟩
theorem fg_X9_24 : Fg RX9 24 8 5 (.array .int) true true := ⟨_, _, _, _, kc_X9, by decide, w_126, by decide +kernel, rfl, fun _ => rfl⟩
theorem fg_X9_27 : Fg RX9 27 8 6 (.array .int) true true := ⟨_, _, _, _, kc_X9, by decide, w_127, by decide +kernel, rfl, fun _ => rfl⟩
theorem fg_X9_30 : Fg RX9 30 8 7 (.int) false true := ⟨_, _, _, _, kc_X9, by decide, w_128, by decide +kernel, rfl, fun _ => rfl⟩
theorem fg_X9_34 : Fg RX9 34 8 8 (.boolean) false true := ⟨_, _, _, _, kc_X9, by decide, w_129, by decide +kernel, rfl, fun _ => rfl⟩
theorem fg_X9_38 : Fg RX9 38 8 0 (.object "GalleryGuards$Plan") true true := ⟨_, _, _, _, kc_X9, by decide, w_130, by decide +kernel, rfl, fun _ => rfl⟩
theorem fg_X9_66 : Fg RX9 66 5 0 (.int) false false := ⟨_, _, _, _, kc_X6, by decide, w_131, by decide +kernel, rfl, fun h => nomatch h⟩
theorem kc_X10 : Kc 9 RX10 TX10 3 tyX10 := ⟨rfl, big_ws (lt_s (lt_s (lt_s lt_0 w_132) w_133) w_134), tyX10_ok, nmX10⟩
theorem fg_X10_9 : Fg RX10 9 9 0 (.object "GalleryGuards$Plan") true true := ⟨_, _, _, _, kc_X10, by decide, w_135, by decide +kernel, rfl, fun _ => rfl⟩
theorem fg_X10_15 : Fg RX10 15 9 1 (.object "GalleryGuards$Lattice") true true := ⟨_, _, _, _, kc_X10, by decide, w_136, by decide +kernel, rfl, fun _ => rfl⟩
theorem fg_X10_19 : Fg RX10 19 9 2 (.object "GalleryGuards$Sight") true true := ⟨_, _, _, _, kc_X10, by decide, w_137, by decide +kernel, rfl, fun _ => rfl⟩
theorem fg_X10_50 : Fg RX10 50 3 0 (.int) false false := ⟨_, _, _, _, kc_X3, by decide, w_138, by decide +kernel, rfl, fun h => nomatch h⟩
theorem fg_X10_74 : Fg RX10 74 5 1 (.int) false false := ⟨_, _, _, _, kc_X6, by decide, w_139, by decide +kernel, rfl, fun h => nomatch h⟩
theorem fg_X10_98 : Fg RX10 98 5 2 (.int) false false := ⟨_, _, _, _, kc_X6, by decide, w_140, by decide +kernel, rfl, fun h => nomatch h⟩
theorem kc_X11 : Kc 10 RX11 TX11 18 tyX11 := ⟨rfl, big_ws (lt_s (lt_s (lt_s (lt_s (lt_s (lt_s (lt_s (lt_s (lt_s (lt_s (lt_s (lt_s (lt_s (lt_s (lt_s (lt_s (lt_s (lt_s lt_0 w_142) w_143) w_144) w_145) w_146) w_147) w_148) w_149) w_150) w_151) w_152) w_153) w_154) w_155) w_156) w_157) w_158) w_159), tyX11_ok, nmX11⟩
theorem fg_X11_12 : Fg RX11 12 10 0 (.object "GalleryGuards$Input") true true := ⟨_, _, _, _, kc_X11, by decide, w_160, by decide +kernel, rfl, fun _ => rfl⟩
theorem fg_X11_19 : Fg RX11 19 10 2 (.object "GalleryGuards$Plan") true true := ⟨_, _, _, _, kc_X11, by decide, w_161, by decide +kernel, rfl, fun _ => rfl⟩
theorem fg_X11_23 : Fg RX11 23 10 3 (.object "GalleryGuards$Plan") true true := ⟨_, _, _, _, kc_X11, by decide, w_162, by decide +kernel, rfl, fun _ => rfl⟩
theorem fg_X11_29 : Fg RX11 29 10 4 (.object "GalleryGuards$Lattice") true true := ⟨_, _, _, _, kc_X11, by decide, w_163, by decide +kernel, rfl, fun _ => rfl⟩
theorem fg_X11_33 : Fg RX11 33 10 5 (.object "GalleryGuards$Lattice") true true := ⟨_, _, _, _, kc_X11, by decide, w_164, by decide +kernel, rfl, fun _ => rfl⟩
theorem fg_X11_41 : Fg RX11 41 10 1 (.object "GalleryGuards$Parse\x72") true true := ⟨_, _, _, _, kc_X11, by decide, w_165, by decide +kernel, rfl, fun _ => rfl⟩
theorem fg_X11_50 : Fg RX11 50 10 6 (.object "GalleryGuards$Sight") true true := ⟨_, _, _, _, kc_X11, by decide, w_166, by decide +kernel, rfl, fun _ => rfl⟩
theorem fg_X11_59 : Fg RX11 59 10 7 (.object "GalleryGuards$Triangulation") true true := ⟨_, _, _, _, kc_X11, by decide, w_167, by decide +kernel, rfl, fun _ => rfl⟩
theorem fg_X11_68 : Fg RX11 68 10 8 (.object "GalleryGuards$CoverSearch") true true := ⟨_, _, _, _, kc_X11, by decide, w_168, by decide +kernel, rfl, fun _ => rfl⟩
theorem fg_X11_77 : Fg RX11 77 10 9 (.object "GalleryGuards$SpreadSearch") true true := ⟨_, _, _, _, kc_X11, by decide, w_169, by decide +kernel, rfl, fun _ => rfl⟩
theorem fg_X11_84 : Fg RX11 84 10 10 (.object "GalleryGuards$Watch") true true := ⟨_, _, _, _, kc_X11, by decide, w_170, by decide +kernel, rfl, fun _ => rfl⟩
theorem fg_X11_91 : Fg RX11 91 10 11 (.object "GalleryGuards$History") true true := ⟨_, _, _, _, kc_X11, by decide, w_171, by decide +kernel, rfl, fun _ => rfl⟩
theorem fg_X11_95 : Fg RX11 95 10 12 (.object "GalleryGuards$Plan") true true := ⟨_, _, _, _, kc_X11, by decide, w_172, by decide +kernel, rfl, fun _ => rfl⟩
theorem fg_X11_98 : Fg RX11 98 10 13 (.object "GalleryGuards$Plan") true true := ⟨_, _, _, _, kc_X11, by decide, w_173, by decide +kernel, rfl, fun _ => rfl⟩
theorem fg_X11_101 : Fg RX11 101 10 14 (.array .int) true true := ⟨_, _, _, _, kc_X11, by decide, w_174, by decide +kernel, rfl, fun _ => rfl⟩
theorem fg_X11_105 : Fg RX11 105 10 15 (.boolean) false true := ⟨_, _, _, _, kc_X11, by decide, w_175, by decide +kernel, rfl, fun _ => rfl⟩
theorem fg_X11_109 : Fg RX11 109 10 16 (.int) false true := ⟨_, _, _, _, kc_X11, by decide, w_176, by decide +kernel, rfl, fun _ => rfl⟩
theorem fg_X11_113 : Fg RX11 113 10 17 (.int) false true := ⟨_, _, _, _, kc_X11, by decide, w_177, by decide +kernel, rfl, fun _ => rfl⟩
theorem fg_X11_116 : Fg RX11 116 2 0 (.int) false false := ⟨_, _, _, _, kc_X2, by decide, w_178, by decide +kernel, rfl, fun h => nomatch h⟩
theorem fg_X11_134 : Fg RX11 134 2 2 (.int) false false := ⟨_, _, _, _, kc_X2, by decide, w_179, by decide +kernel, rfl, fun h => nomatch h⟩
theorem fg_X11_149 : Fg RX11 149 3 0 (.int) false false := ⟨_, _, _, _, kc_X3, by decide, w_180, by decide +kernel, rfl, fun h => nomatch h⟩
theorem fg_X11_152 : Fg RX11 152 5 0 (.int) false false := ⟨_, _, _, _, kc_X6, by decide, w_181, by decide +kernel, rfl, fun h => nomatch h⟩
theorem fg_X11_192 : Fg RX11 192 3 1 (.long) false false := ⟨_, _, _, _, kc_X3, by decide, w_182, by decide +kernel, rfl, fun h => nomatch h⟩
theorem fg_X11_262 : Fg RX11 262 5 1 (.int) false false := ⟨_, _, _, _, kc_X6, by decide, w_183, by decide +kernel, rfl, fun h => nomatch h⟩
theorem fg_X11_295 : Fg RX11 295 5 2 (.int) false false := ⟨_, _, _, _, kc_X6, by decide, w_184, by decide +kernel, rfl, fun h => nomatch h⟩
theorem fg_X11_348 : Fg RX11 348 1 0 (.int) false false := ⟨_, _, _, _, kc_X1, by decide, w_185, by decide +kernel, rfl, fun h => nomatch h⟩
theorem kc_X12 : Kc 11 RX12 TX12 41 tyX12 := ⟨rfl, big_ws (lt_s (lt_s (lt_s (lt_s (lt_s (lt_s (lt_s (lt_s (lt_s (lt_s (lt_s (lt_s (lt_s (lt_s (lt_s (lt_s (lt_s (lt_s (lt_s (lt_s (lt_s (lt_s (lt_s (lt_s (lt_s (lt_s (lt_s (lt_s (lt_s (lt_s (lt_s (lt_s (lt_s (lt_s (lt_s (lt_s (lt_s (lt_s (lt_s (lt_s (lt_s lt_0 w_187) w_188) w_189) w_190) w_191) w_192) w_193) w_194) w_195) w_196) w_197) w_198) w_199) w_200) w_201) w_202) w_203) w_204) w_205) w_206) w_207) w_208) w_209) w_210) w_211) w_212) w_213) w_214) w_215) w_216) w_217) w_218) w_219) w_220) w_221) w_222) w_223) w_224) w_225) w_226) w_227), tyX12_ok, nmX12⟩
theorem fg_X12_7 : Fg RX12 7 11 2 (.array .int) true true := ⟨_, _, _, _, kc_X12, by decide, w_228, by decide +kernel, rfl, fun _ => rfl⟩
theorem fg_X12_13 : Fg RX12 13 11 3 (.array .int) true true := ⟨_, _, _, _, kc_X12, by decide, w_229, by decide +kernel, rfl, fun _ => rfl⟩
theorem fg_X12_16 : Fg RX12 16 11 5 (.array .boolean) true true := ⟨_, _, _, _, kc_X12, by decide, w_230, by decide +kernel, rfl, fun _ => rfl⟩
theorem fg_X12_20 : Fg RX12 20 11 6 (.array .int) true true := ⟨_, _, _, _, kc_X12, by decide, w_231, by decide +kernel, rfl, fun _ => rfl⟩
theorem fg_X12_23 : Fg RX12 23 11 9 (.int) false true := ⟨_, _, _, _, kc_X12, by decide, w_232, by decide +kernel, rfl, fun _ => rfl⟩
theorem fg_X12_27 : Fg RX12 27 11 14 (.array .int) true true := ⟨_, _, _, _, kc_X12, by decide, w_233, by decide +kernel, rfl, fun _ => rfl⟩
theorem fg_X12_30 : Fg RX12 30 11 19 (.array .int) true true := ⟨_, _, _, _, kc_X12, by decide, w_234, by decide +kernel, rfl, fun _ => rfl⟩
theorem fg_X12_33 : Fg RX12 33 11 21 (.array .int) true true := ⟨_, _, _, _, kc_X12, by decide, w_235, by decide +kernel, rfl, fun _ => rfl⟩
theorem fg_X12_36 : Fg RX12 36 11 22 (.array .int) true true := ⟨_, _, _, _, kc_X12, by decide, w_236, by decide +kernel, rfl, fun _ => rfl⟩
theorem fg_X12_39 : Fg RX12 39 11 23 (.array .int) true true := ⟨_, _, _, _, kc_X12, by decide, w_237, by decide +kernel, rfl, fun _ => rfl⟩
theorem fg_X12_42 : Fg RX12 42 11 24 (.array .long) true true := ⟨_, _, _, _, kc_X12, by decide, w_238, by decide +kernel, rfl, fun _ => rfl⟩
theorem fg_X12_46 : Fg RX12 46 11 25 (.array .long) true true := ⟨_, _, _, _, kc_X12, by decide, w_239, by decide +kernel, rfl, fun _ => rfl⟩
theorem fg_X12_49 : Fg RX12 49 11 26 (.array .long) true true := ⟨_, _, _, _, kc_X12, by decide, w_240, by decide +kernel, rfl, fun _ => rfl⟩
theorem fg_X12_52 : Fg RX12 52 11 28 (.array .long) true true := ⟨_, _, _, _, kc_X12, by decide, w_241, by decide +kernel, rfl, fun _ => rfl⟩
theorem fg_X12_55 : Fg RX12 55 11 29 (.array .long) true true := ⟨_, _, _, _, kc_X12, by decide, w_242, by decide +kernel, rfl, fun _ => rfl⟩
theorem fg_X12_58 : Fg RX12 58 11 30 (.array .int) true true := ⟨_, _, _, _, kc_X12, by decide, w_243, by decide +kernel, rfl, fun _ => rfl⟩
theorem fg_X12_61 : Fg RX12 61 11 31 (.array .int) true true := ⟨_, _, _, _, kc_X12, by decide, w_244, by decide +kernel, rfl, fun _ => rfl⟩
theorem fg_X12_64 : Fg RX12 64 11 32 (.array .int) true true := ⟨_, _, _, _, kc_X12, by decide, w_245, by decide +kernel, rfl, fun _ => rfl⟩
theorem fg_X12_67 : Fg RX12 67 11 33 (.array .int) true true := ⟨_, _, _, _, kc_X12, by decide, w_246, by decide +kernel, rfl, fun _ => rfl⟩
theorem fg_X12_70 : Fg RX12 70 11 35 (.array .int) true true := ⟨_, _, _, _, kc_X12, by decide, w_247, by decide +kernel, rfl, fun _ => rfl⟩
theorem fg_X12_73 : Fg RX12 73 11 37 (.array .int) true true := ⟨_, _, _, _, kc_X12, by decide, w_248, by decide +kernel, rfl, fun _ => rfl⟩
theorem fg_X12_76 : Fg RX12 76 11 39 (.array .int) true true := ⟨_, _, _, _, kc_X12, by decide, w_249, by decide +kernel, rfl, fun _ => rfl⟩
theorem fg_X12_79 : Fg RX12 79 11 0 (.int) false true := ⟨_, _, _, _, kc_X12, by decide, w_250, by decide +kernel, rfl, fun _ => rfl⟩
theorem fg_X12_82 : Fg RX12 82 11 1 (.boolean) false true := ⟨_, _, _, _, kc_X12, by decide, w_251, by decide +kernel, rfl, fun _ => rfl⟩
theorem fg_X12_90 : Fg RX12 90 11 7 (.int) false true := ⟨_, _, _, _, kc_X12, by decide, w_252, by decide +kernel, rfl, fun _ => rfl⟩
theorem fg_X12_93 : Fg RX12 93 11 8 (.int) false true := ⟨_, _, _, _, kc_X12, by decide, w_253, by decide +kernel, rfl, fun _ => rfl⟩
theorem fg_X12_96 : Fg RX12 96 11 10 (.int) false true := ⟨_, _, _, _, kc_X12, by decide, w_254, by decide +kernel, rfl, fun _ => rfl⟩
theorem fg_X12_99 : Fg RX12 99 11 11 (.int) false true := ⟨_, _, _, _, kc_X12, by decide, w_255, by decide +kernel, rfl, fun _ => rfl⟩
theorem fg_X12_106 : Fg RX12 106 11 12 (.int) false true := ⟨_, _, _, _, kc_X12, by decide, w_256, by decide +kernel, rfl, fun _ => rfl⟩
theorem fg_X12_109 : Fg RX12 109 11 13 (.int) false true := ⟨_, _, _, _, kc_X12, by decide, w_257, by decide +kernel, rfl, fun _ => rfl⟩
theorem fg_X12_116 : Fg RX12 116 11 15 (.int) false true := ⟨_, _, _, _, kc_X12, by decide, w_258, by decide +kernel, rfl, fun _ => rfl⟩
theorem fg_X12_122 : Fg RX12 122 11 16 (.int) false true := ⟨_, _, _, _, kc_X12, by decide, w_259, by decide +kernel, rfl, fun _ => rfl⟩
theorem fg_X12_125 : Fg RX12 125 11 17 (.int) false true := ⟨_, _, _, _, kc_X12, by decide, w_260, by decide +kernel, rfl, fun _ => rfl⟩
theorem fg_X12_128 : Fg RX12 128 11 18 (.int) false true := ⟨_, _, _, _, kc_X12, by decide, w_261, by decide +kernel, rfl, fun _ => rfl⟩
theorem fg_X12_192 : Fg RX12 192 11 4 (.int) false true := ⟨_, _, _, _, kc_X12, by decide, w_262, by decide +kernel, rfl, fun _ => rfl⟩
theorem fg_X12_195 : Fg RX12 195 11 27 (.boolean) false true := ⟨_, _, _, _, kc_X12, by decide, w_263, by decide +kernel, rfl, fun _ => rfl⟩
theorem fg_X12_201 : Fg RX12 201 11 20 (.int) false true := ⟨_, _, _, _, kc_X12, by decide, w_264, by decide +kernel, rfl, fun _ => rfl⟩
theorem fg_X12_269 : Fg RX12 269 11 34 (.int) false true := ⟨_, _, _, _, kc_X12, by decide, w_265, by decide +kernel, rfl, fun _ => rfl⟩
theorem fg_X12_272 : Fg RX12 272 11 36 (.int) false true := ⟨_, _, _, _, kc_X12, by decide, w_266, by decide +kernel, rfl, fun _ => rfl⟩
theorem fg_X12_337 : Fg RX12 337 11 38 (.int) false true := ⟨_, _, _, _, kc_X12, by decide, w_267, by decide +kernel, rfl, fun _ => rfl⟩
theorem fg_X12_370 : Fg RX12 370 11 40 (.boolean) false true := ⟨_, _, _, _, kc_X12, by decide, w_268, by decide +kernel, rfl, fun _ => rfl⟩
theorem cd_yX6_cornerX : Cd yX6_cornerX 1 := ⟨by decide +kernel, by decide +kernel, by decide +kernel⟩
theorem cV_X0_49 : CV RX0 49 yX6_cornerX cX6_cornerX 2 (some .int) 1 := ⟨w_646, w_647, w_648, w_649, w_322, cd_yX6_cornerX⟩
theorem cd_yX6_cornerY : Cd yX6_cornerY 1 := ⟨by decide +kernel, by decide +kernel, by decide +kernel⟩
theorem cV_X0_53 : CV RX0 53 yX6_cornerY cX6_cornerY 2 (some .int) 1 := ⟨w_650, w_651, w_652, w_649, w_323, cd_yX6_cornerY⟩
theorem cd_yX3_numberAt : Cd yX3_numberAt 2 := ⟨by decide +kernel, by decide +kernel, by decide +kernel⟩
theorem cV_X0_56 : CV RX0 56 yX3_numberAt cX3_numberAt 3 (some .int) 2 := ⟨w_653, w_654, w_655, w_656, w_296, cd_yX3_numberAt⟩
theorem cd_yX7_from : Cd yX7_from 1 := ⟨by decide +kernel, by decide +kernel, by decide +kernel⟩
theorem cV_X0_62 : CV RX0 62 yX7_from cX7_from 2 (some .long) 1 := ⟨w_657, w_658, w_659, w_660, w_351, cd_yX7_from⟩
theorem cd_yX0_fewestViews : Cd yX0_fewestViews 0 := ⟨by decide +kernel, by decide +kernel, by decide +kernel⟩
theorem cV_X0_68 : CV RX0 68 yX0_fewestViews cX0_fewestViews 4 (some .int) 0 := ⟨w_661, w_662, w_663, w_664, w_281, cd_yX0_fewestViews⟩
theorem cd_yX7_fromEdge : Cd yX7_fromEdge 1 := ⟨by decide +kernel, by decide +kernel, by decide +kernel⟩
theorem cV_X0_72 : CV RX0 72 yX7_fromEdge cX7_fromEdge 5 (some .long) 1 := ⟨w_665, w_666, w_667, w_660, w_353, cd_yX7_fromEdge⟩
theorem cd_yJ6_bitCount_0f7a4 : Cd yJ6_bitCount_0f7a4 1 := ⟨by decide +kernel, by decide +kernel, by decide +kernel⟩
theorem cS_X0_80 : CS RX0 80 yJ6_bitCount_0f7a4 cJ6_bitCount_0f7a4 1 (some .int) 1 := ⟨w_668, w_669, w_670, w_642, cd_yJ6_bitCount_0f7a4⟩
theorem cd_yX0_viewOf : Cd yX0_viewOf 1 := ⟨by decide +kernel, by decide +kernel, by decide +kernel⟩
theorem cV_X0_85 : CV RX0 85 yX0_viewOf cX0_viewOf 5 (some .long) 1 := ⟨w_671, w_672, w_673, w_664, w_282, cd_yX0_viewOf⟩
theorem cd_yX3_everyPoint : Cd yX3_everyPoint 0 := ⟨by decide +kernel, by decide +kernel, by decide +kernel⟩
theorem cV_X0_88 : CV RX0 88 yX3_everyPoint cX3_everyPoint 1 (some .long) 0 := ⟨w_674, w_675, w_676, w_656, w_299, cd_yX3_everyPoint⟩
theorem cd_yX11_has : Cd yX11_has 2 := ⟨by decide +kernel, by decide +kernel, by decide +kernel⟩
theorem cN_X0_92 : CSN RX0 92 yX11_has cX11_has 3 (some .boolean) 2 := ⟨by decide, w_677, w_678, w_455, cd_yX11_has⟩
theorem cd_yX0_pick : Cd yX0_pick 4 := ⟨by decide +kernel, by decide +kernel, by decide +kernel⟩
theorem cV_X0_96 : CV RX0 96 yX0_pick cX0_pick 9 (some .boolean) 4 := ⟨w_679, w_680, w_681, w_664, w_285, cd_yX0_pick⟩
theorem cd_yX6_copyFrom : Cd yX6_copyFrom 1 := ⟨by decide +kernel, by decide +kernel, by decide +kernel⟩
theorem cV_X1_25 : CV RX1 25 yX6_copyFrom cX6_copyFrom 2 none 1 := ⟨w_682, w_683, w_684, w_649, w_321, cd_yX6_copyFrom⟩
theorem cd_yX2_readToken : Cd yX2_readToken 0 := ⟨by decide +kernel, by decide +kernel, by decide +kernel⟩
theorem cV_X2_34 : CV RX2 34 yX2_readToken cX2_readToken 2 none 0 := ⟨w_685, w_686, w_687, w_688, w_291, cd_yX2_readToken⟩
theorem cd_yX2_runEnd : Cd yX2_runEnd 3 := ⟨by decide +kernel, by decide +kernel, by decide +kernel⟩
theorem cV_X2_37 : CV RX2 37 yX2_runEnd cX2_runEnd 5 (some .int) 3 := ⟨w_689, w_690, w_691, w_688, w_292, cd_yX2_runEnd⟩
theorem cd_yX2_digitsValue : Cd yX2_digitsValue 0 := ⟨by decide +kernel, by decide +kernel, by decide +kernel⟩
theorem cV_X2_41 : CV RX2 41 yX2_digitsValue cX2_digitsValue 3 (some .int) 0 := ⟨w_692, w_693, w_694, w_688, w_293, cd_yX2_digitsValue⟩
theorem cd_yX4_placeOf : Cd yX4_placeOf 3 := ⟨by decide +kernel, by decide +kernel, by decide +kernel⟩
theorem cS_X3_29 : CS RX3 29 yX4_placeOf cX4_placeOf 5 (some .int) 3 := ⟨w_695, w_696, w_697, w_311, cd_yX4_placeOf⟩
theorem cd_yX6_guardX : Cd yX6_guardX 1 := ⟨by decide +kernel, by decide +kernel, by decide +kernel⟩
theorem cV_X3_42 : CV RX3 42 yX6_guardX cX6_guardX 2 (some .int) 1 := ⟨w_698, w_699, w_700, w_649, w_330, cd_yX6_guardX⟩
theorem cd_yX6_guardY : Cd yX6_guardY 1 := ⟨by decide +kernel, by decide +kernel, by decide +kernel⟩
theorem cV_X3_46 : CV RX3 46 yX6_guardY cX6_guardY 2 (some .int) 1 := ⟨w_701, w_702, w_703, w_649, w_331, cd_yX6_guardY⟩
theorem cV_X3_49 : CV RX3 49 yX3_numberAt cX3_numberAt 3 (some .int) 2 := ⟨w_704, w_654, w_655, w_656, w_296, cd_yX3_numberAt⟩
theorem cd_yX6_treasureX : Cd yX6_treasureX 1 := ⟨by decide +kernel, by decide +kernel, by decide +kernel⟩
theorem cV_X3_56 : CV RX3 56 yX6_treasureX cX6_treasureX 2 (some .int) 1 := ⟨w_705, w_706, w_707, w_649, w_338, cd_yX6_treasureX⟩
theorem cd_yX6_treasureY : Cd yX6_treasureY 1 := ⟨by decide +kernel, by decide +kernel, by decide +kernel⟩
theorem cV_X3_59 : CV RX3 59 yX6_treasureY cX6_treasureY 2 (some .int) 1 := ⟨w_708, w_709, w_710, w_649, w_339, cd_yX6_treasureY⟩
theorem cV_X4_9 : CV RX4 9 yX6_cornerX cX6_cornerX 2 (some .int) 1 := ⟨w_711, w_647, w_648, w_649, w_322, cd_yX6_cornerX⟩
theorem cV_X4_15 : CV RX4 15 yX6_cornerY cX6_cornerY 2 (some .int) 1 := ⟨w_712, w_651, w_652, w_649, w_323, cd_yX6_cornerY⟩
theorem cd_yX4_turn : Cd yX4_turn 6 := ⟨by decide +kernel, by decide +kernel, by decide +kernel⟩
theorem cS_X4_18 : CS RX4 18 yX4_turn cX4_turn 6 (some .int) 6 := ⟨w_713, w_714, w_697, w_301, cd_yX4_turn⟩
theorem cd_yX6_after : Cd yX6_after 1 := ⟨by decide +kernel, by decide +kernel, by decide +kernel⟩
theorem cV_X4_28 : CV RX4 28 yX6_after cX6_after 2 (some .int) 1 := ⟨w_715, w_716, w_717, w_649, w_324, cd_yX6_after⟩
theorem cd_yX4_signedArea : Cd yX4_signedArea 1 := ⟨by decide +kernel, by decide +kernel, by decide +kernel⟩
theorem cS_X4_31 : CS RX4 31 yX4_signedArea cX4_signedArea 4 (some .int) 1 := ⟨w_718, w_719, w_697, w_303, cd_yX4_signedArea⟩
theorem cd_yX6_before : Cd yX6_before 1 := ⟨by decide +kernel, by decide +kernel, by decide +kernel⟩
theorem cV_X4_35 : CV RX4 35 yX6_before cX6_before 2 (some .int) 1 := ⟨w_720, w_721, w_722, w_649, w_325, cd_yX6_before⟩
theorem cd_yX4_turnOf : Cd yX4_turnOf 4 := ⟨by decide +kernel, by decide +kernel, by decide +kernel⟩
theorem cS_X4_38 : CS RX4 38 yX4_turnOf cX4_turnOf 4 (some .int) 4 := ⟨w_723, w_724, w_697, w_302, cd_yX4_turnOf⟩
theorem cd_yX4_foldsBack : Cd yX4_foldsBack 2 := ⟨by decide +kernel, by decide +kernel, by decide +kernel⟩
theorem cS_X4_42 : CS RX4 42 yX4_foldsBack cX4_foldsBack 8 (some .boolean) 2 := ⟨w_725, w_726, w_697, w_306, cd_yX4_foldsBack⟩
theorem cd_yX4_edgesMeet : Cd yX4_edgesMeet 3 := ⟨by decide +kernel, by decide +kernel, by decide +kernel⟩
theorem cS_X4_46 : CS RX4 46 yX4_edgesMeet cX4_edgesMeet 5 (some .boolean) 3 := ⟨w_727, w_728, w_697, w_307, cd_yX4_edgesMeet⟩
theorem cd_yX4_crosses : Cd yX4_crosses 6 := ⟨by decide +kernel, by decide +kernel, by decide +kernel⟩
theorem cS_X4_50 : CS RX4 50 yX4_crosses cX4_crosses 11 (some .boolean) 6 := ⟨w_729, w_730, w_697, w_308, cd_yX4_crosses⟩
theorem cd_yX4_liesOn : Cd yX4_liesOn 5 := ⟨by decide +kernel, by decide +kernel, by decide +kernel⟩
theorem cS_X4_54 : CS RX4 54 yX4_liesOn cX4_liesOn 10 (some .boolean) 5 := ⟨w_731, w_732, w_697, w_310, cd_yX4_liesOn⟩
theorem cd_yX4_opposite : Cd yX4_opposite 2 := ⟨by decide +kernel, by decide +kernel, by decide +kernel⟩
theorem cS_X4_58 : CS RX4 58 yX4_opposite cX4_opposite 2 (some .boolean) 2 := ⟨w_733, w_734, w_697, w_309, cd_yX4_opposite⟩
theorem cd_yX4_passesRightOf : Cd yX4_passesRightOf 4 := ⟨by decide +kernel, by decide +kernel, by decide +kernel⟩
theorem cS_X4_71 : CS RX4 71 yX4_passesRightOf cX4_passesRightOf 8 (some .boolean) 4 := ⟨w_735, w_736, w_697, w_312, cd_yX4_passesRightOf⟩
theorem cd_yX6_clear : Cd yX6_clear 0 := ⟨by decide +kernel, by decide +kernel, by decide +kernel⟩
theorem cV_X5_30 : CV RX5 30 yX6_clear cX6_clear 1 none 0 := ⟨w_737, w_738, w_739, w_649, w_320, cd_yX6_clear⟩
theorem cd_yX2_startText : Cd yX2_startText 1 := ⟨by decide +kernel, by decide +kernel, by decide +kernel⟩
theorem cV_X5_35 : CV RX5 35 yX2_startText cX2_startText 2 none 1 := ⟨w_740, w_741, w_742, w_688, w_290, cd_yX2_startText⟩
theorem cd_yX2_isWord : Cd yX2_isWord 1 := ⟨by decide +kernel, by decide +kernel, by decide +kernel⟩
theorem cV_X5_43 : CV RX5 43 yX2_isWord cX2_isWord 4 (some .boolean) 1 := ⟨w_743, w_744, w_745, w_688, w_294, cd_yX2_isWord⟩
theorem cV_X5_47 : CV RX5 47 yX2_readToken cX2_readToken 2 none 0 := ⟨w_746, w_686, w_687, w_688, w_291, cd_yX2_readToken⟩
theorem cd_yX5_readVertices : Cd yX5_readVertices 0 := ⟨by decide +kernel, by decide +kernel, by decide +kernel⟩
theorem cV_X5_50 : CV RX5 50 yX5_readVertices cX5_readVertices 3 (some .int) 0 := ⟨w_747, w_748, w_749, w_750, w_314, cd_yX5_readVertices⟩
theorem cd_yX5_readLines : Cd yX5_readLines 0 := ⟨by decide +kernel, by decide +kernel, by decide +kernel⟩
theorem cV_X5_54 : CV RX5 54 yX5_readLines cX5_readLines 3 (some .int) 0 := ⟨w_751, w_752, w_753, w_750, w_315, cd_yX5_readLines⟩
theorem cd_yX4_isSimple : Cd yX4_isSimple 1 := ⟨by decide +kernel, by decide +kernel, by decide +kernel⟩
theorem cS_X5_60 : CS RX5 60 yX4_isSimple cX4_isSimple 3 (some .boolean) 1 := ⟨w_754, w_755, w_697, w_305, cd_yX4_isSimple⟩
theorem cd_yX3_fill : Cd yX3_fill 1 := ⟨by decide +kernel, by decide +kernel, by decide +kernel⟩
theorem cV_X5_66 : CV RX5 66 yX3_fill cX3_fill 5 (some .boolean) 1 := ⟨w_756, w_757, w_758, w_656, w_295, cd_yX3_fill⟩
theorem cd_yX5_checkNumber : Cd yX5_checkNumber 2 := ⟨by decide +kernel, by decide +kernel, by decide +kernel⟩
theorem cV_X5_71 : CV RX5 71 yX5_checkNumber cX5_checkNumber 3 (some .int) 2 := ⟨w_759, w_760, w_761, w_750, w_319, cd_yX5_checkNumber⟩
theorem cd_yX5_readPlace : Cd yX5_readPlace 1 := ⟨by decide +kernel, by decide +kernel, by decide +kernel⟩
theorem cV_X5_75 : CV RX5 75 yX5_readPlace cX5_readPlace 3 (some .int) 1 := ⟨w_762, w_763, w_764, w_750, w_318, cd_yX5_readPlace⟩
theorem cd_yX6_putCorner : Cd yX6_putCorner 3 := ⟨by decide +kernel, by decide +kernel, by decide +kernel⟩
theorem cV_X5_79 : CV RX5 79 yX6_putCorner cX6_putCorner 5 none 3 := ⟨w_765, w_766, w_767, w_649, w_326, cd_yX6_putCorner⟩
theorem cd_yX5_readGuard : Cd yX5_readGuard 0 := ⟨by decide +kernel, by decide +kernel, by decide +kernel⟩
theorem cV_X5_88 : CV RX5 88 yX5_readGuard cX5_readGuard 3 (some .int) 0 := ⟨w_768, w_769, w_770, w_750, w_316, cd_yX5_readGuard⟩
theorem cd_yX5_readTreasure : Cd yX5_readTreasure 0 := ⟨by decide +kernel, by decide +kernel, by decide +kernel⟩
theorem cV_X5_96 : CV RX5 96 yX5_readTreasure cX5_readTreasure 2 (some .int) 0 := ⟨w_771, w_772, w_773, w_750, w_317, cd_yX5_readTreasure⟩
theorem cd_yX6_putGuard : Cd yX6_putGuard 3 := ⟨by decide +kernel, by decide +kernel, by decide +kernel⟩
theorem cV_X5_104 : CV RX5 104 yX6_putGuard cX6_putGuard 4 none 3 := ⟨w_774, w_775, w_776, w_649, w_333, cd_yX6_putGuard⟩
theorem cd_yX6_putTreasure : Cd yX6_putTreasure 3 := ⟨by decide +kernel, by decide +kernel, by decide +kernel⟩
theorem cV_X5_107 : CV RX5 107 yX6_putTreasure cX6_putTreasure 4 none 3 := ⟨w_777, w_778, w_779, w_649, w_341, cd_yX6_putTreasure⟩
theorem cV_X5_110 : CV RX5 110 yX3_numberAt cX3_numberAt 3 (some .int) 2 := ⟨w_780, w_654, w_655, w_656, w_296, cd_yX3_numberAt⟩
theorem cd_yX7_linkPairs : Cd yX7_linkPairs 1 := ⟨by decide +kernel, by decide +kernel, by decide +kernel⟩
theorem cV_X7_27 : CV RX7 27 yX7_linkPairs cX7_linkPairs 5 none 1 := ⟨w_781, w_782, w_783, w_660, w_345, cd_yX7_linkPairs⟩
theorem cd_yX3_xOf : Cd yX3_xOf 1 := ⟨by decide +kernel, by decide +kernel, by decide +kernel⟩
theorem cV_X7_37 : CV RX7 37 yX3_xOf cX3_xOf 2 (some .int) 1 := ⟨w_784, w_785, w_786, w_656, w_297, cd_yX3_xOf⟩
theorem cd_yX3_yOf : Cd yX3_yOf 1 := ⟨by decide +kernel, by decide +kernel, by decide +kernel⟩
theorem cV_X7_41 : CV RX7 41 yX3_yOf cX3_yOf 2 (some .int) 1 := ⟨w_787, w_788, w_789, w_656, w_298, cd_yX3_yOf⟩
theorem cd_yX7_piecesOf : Cd yX7_piecesOf 2 := ⟨by decide +kernel, by decide +kernel, by decide +kernel⟩
theorem cS_X7_44 : CS RX7 44 yX7_piecesOf cX7_piecesOf 3 (some .int) 2 := ⟨w_790, w_791, w_660, w_348, cd_yX7_piecesOf⟩
theorem cd_yX7_isChained : Cd yX7_isChained 3 := ⟨by decide +kernel, by decide +kernel, by decide +kernel⟩
theorem cV_X7_48 : CV RX7 48 yX7_isChained cX7_isChained 9 (some .boolean) 3 := ⟨w_792, w_793, w_794, w_660, w_347, cd_yX7_isChained⟩
theorem cd_yX7_isClear : Cd yX7_isClear 2 := ⟨by decide +kernel, by decide +kernel, by decide +kernel⟩
theorem cV_X7_52 : CV RX7 52 yX7_isClear cX7_isClear 8 (some .boolean) 2 := ⟨w_795, w_796, w_797, w_660, w_346, cd_yX7_isClear⟩
theorem cS_X7_61 : CS RX7 61 yX4_crosses cX4_crosses 11 (some .boolean) 6 := ⟨w_798, w_730, w_697, w_308, cd_yX4_crosses⟩
theorem cS_X7_67 : CS RX7 67 yX4_placeOf cX4_placeOf 5 (some .int) 3 := ⟨w_799, w_696, w_697, w_311, cd_yX4_placeOf⟩
theorem cV_X7_71 : CV RX7 71 yX3_numberAt cX3_numberAt 3 (some .int) 2 := ⟨w_800, w_654, w_655, w_656, w_296, cd_yX3_numberAt⟩
theorem cN_X7_74 : CSN RX7 74 yX11_has cX11_has 3 (some .boolean) 2 := ⟨by decide, w_677, w_678, w_455, cd_yX11_has⟩
theorem cV_X7_78 : CV RX7 78 yX3_everyPoint cX3_everyPoint 1 (some .long) 0 := ⟨w_801, w_675, w_676, w_656, w_299, cd_yX3_everyPoint⟩
theorem cd_yX7_pointCount : Cd yX7_pointCount 0 := ⟨by decide +kernel, by decide +kernel, by decide +kernel⟩
theorem cV_X7_87 : CV RX7 87 yX7_pointCount cX7_pointCount 1 (some .int) 0 := ⟨w_802, w_803, w_804, w_660, w_350, cd_yX7_pointCount⟩
theorem cS_X7_91 : CS RX7 91 yX4_liesOn cX4_liesOn 10 (some .boolean) 5 := ⟨w_805, w_732, w_697, w_310, cd_yX4_liesOn⟩
theorem cd_yX7_fromAnyOf : Cd yX7_fromAnyOf 1 := ⟨by decide +kernel, by decide +kernel, by decide +kernel⟩
theorem cV_X7_95 : CV RX7 95 yX7_fromAnyOf cX7_fromAnyOf 6 (some .long) 1 := ⟨w_806, w_807, w_808, w_660, w_352, cd_yX7_fromAnyOf⟩
theorem cV_X7_99 : CV RX7 99 yX7_from cX7_from 2 (some .long) 1 := ⟨w_809, w_658, w_659, w_660, w_351, cd_yX7_from⟩
theorem cd_yX7_everyPoint : Cd yX7_everyPoint 0 := ⟨by decide +kernel, by decide +kernel, by decide +kernel⟩
theorem cV_X7_103 : CV RX7 103 yX7_everyPoint cX7_everyPoint 1 (some .long) 0 := ⟨w_810, w_811, w_812, w_660, w_349, cd_yX7_everyPoint⟩
theorem cd_yJ13_numberOfTrailingZeros_95d88 : Cd yJ13_numberOfTrailingZeros_95d88 1 := ⟨by decide +kernel, by decide +kernel, by decide +kernel⟩
theorem cS_X7_106 : CS RX7 106 yJ13_numberOfTrailingZeros_95d88 cJ13_numberOfTrailingZeros_95d88 3 (some .int) 1 := ⟨w_813, w_814, w_815, w_643, cd_yJ13_numberOfTrailingZeros_95d88⟩
theorem cd_yX7_lastReached : Cd yX7_lastReached 1 := ⟨by decide +kernel, by decide +kernel, by decide +kernel⟩
theorem cV_X7_112 : CV RX7 112 yX7_lastReached cX7_lastReached 7 (some .int) 1 := ⟨w_816, w_817, w_818, w_660, w_356, cd_yX7_lastReached⟩
theorem cd_yX7_links : Cd yX7_links 2 := ⟨by decide +kernel, by decide +kernel, by decide +kernel⟩
theorem cV_X7_115 : CV RX7 115 yX7_links cX7_links 6 (some .int) 2 := ⟨w_819, w_820, w_821, w_660, w_355, cd_yX7_links⟩
theorem cV_X8_30 : CV RX8 30 yX7_from cX7_from 2 (some .long) 1 := ⟨w_822, w_658, w_659, w_660, w_351, cd_yX7_from⟩
theorem cV_X8_36 : CV RX8 36 yX7_fromAnyOf cX7_fromAnyOf 6 (some .long) 1 := ⟨w_823, w_807, w_808, w_660, w_352, cd_yX7_fromAnyOf⟩
theorem cV_X8_40 : CV RX8 40 yX7_everyPoint cX7_everyPoint 1 (some .long) 0 := ⟨w_824, w_811, w_812, w_660, w_349, cd_yX7_everyPoint⟩
theorem cd_yX8_pick : Cd yX8_pick 3 := ⟨by decide +kernel, by decide +kernel, by decide +kernel⟩
theorem cV_X8_44 : CV RX8 44 yX8_pick cX8_pick 8 (some .boolean) 3 := ⟨w_825, w_826, w_827, w_828, w_361, cd_yX8_pick⟩
theorem cN_X8_48 : CSN RX8 48 yX11_has cX11_has 3 (some .boolean) 2 := ⟨by decide, w_677, w_678, w_455, cd_yX11_has⟩
theorem cd_yJ13_bitCount_95d88 : Cd yJ13_bitCount_95d88 1 := ⟨by decide +kernel, by decide +kernel, by decide +kernel⟩
theorem cS_X8_52 : CS RX8 52 yJ13_bitCount_95d88 cJ13_bitCount_95d88 2 (some .int) 1 := ⟨w_829, w_830, w_815, w_644, cd_yJ13_bitCount_95d88⟩
theorem cd_yX8_largestHidden : Cd yX8_largestHidden 2 := ⟨by decide +kernel, by decide +kernel, by decide +kernel⟩
theorem cV_X8_60 : CV RX8 60 yX8_largestHidden cX8_largestHidden 10 (some .int) 2 := ⟨w_831, w_832, w_833, w_828, w_363, cd_yX8_largestHidden⟩
theorem cd_yX8_withoutDominated : Cd yX8_withoutDominated 1 := ⟨by decide +kernel, by decide +kernel, by decide +kernel⟩
theorem cV_X8_64 : CV RX8 64 yX8_withoutDominated cX8_withoutDominated 6 (some .long) 1 := ⟨w_834, w_835, w_836, w_828, w_364, cd_yX8_withoutDominated⟩
theorem cd_yX8_leastSeeing : Cd yX8_leastSeeing 1 := ⟨by decide +kernel, by decide +kernel, by decide +kernel⟩
theorem cV_X8_67 : CV RX8 67 yX8_leastSeeing cX8_leastSeeing 6 (some .int) 1 := ⟨w_837, w_838, w_839, w_828, w_366, cd_yX8_leastSeeing⟩
theorem cd_yX8_isDominated : Cd yX8_isDominated 2 := ⟨by decide +kernel, by decide +kernel, by decide +kernel⟩
theorem cV_X8_76 : CV RX8 76 yX8_isDominated cX8_isDominated 5 (some .boolean) 2 := ⟨w_840, w_841, w_842, w_828, w_365, cd_yX8_isDominated⟩
theorem cd_yX9_cornerOf : Cd yX9_cornerOf 2 := ⟨by decide +kernel, by decide +kernel, by decide +kernel⟩
theorem cV_X9_42 : CV RX9 42 yX9_cornerOf cX9_cornerOf 3 (some .int) 2 := ⟨w_843, w_844, w_845, w_846, w_368, cd_yX9_cornerOf⟩
theorem cS_X9_46 : CS RX9 46 yX4_turnOf cX4_turnOf 4 (some .int) 4 := ⟨w_847, w_724, w_697, w_302, cd_yX4_turnOf⟩
theorem cd_yX9_colourSet : Cd yX9_colourSet 1 := ⟨by decide +kernel, by decide +kernel, by decide +kernel⟩
theorem cV_X9_58 : CV RX9 58 yX9_colourSet cX9_colourSet 4 (some .int) 1 := ⟨w_848, w_849, w_850, w_846, w_372, cd_yX9_colourSet⟩
theorem cS_X9_61 : CS RX9 61 yJ6_bitCount_0f7a4 cJ6_bitCount_0f7a4 1 (some .int) 1 := ⟨w_851, w_669, w_670, w_642, cd_yJ6_bitCount_0f7a4⟩
theorem cd_yX9_colourOf : Cd yX9_colourOf 1 := ⟨by decide +kernel, by decide +kernel, by decide +kernel⟩
theorem cV_X9_71 : CV RX9 71 yX9_colourOf cX9_colourOf 2 (some .int) 1 := ⟨w_852, w_853, w_854, w_846, w_370, cd_yX9_colourOf⟩
theorem cS_X9_77 : CS RX9 77 yX4_signedArea cX4_signedArea 4 (some .int) 1 := ⟨w_855, w_719, w_697, w_303, cd_yX4_signedArea⟩
theorem cd_yX9_firstEar : Cd yX9_firstEar 1 := ⟨by decide +kernel, by decide +kernel, by decide +kernel⟩
theorem cV_X9_81 : CV RX9 81 yX9_firstEar cX9_firstEar 4 (some .int) 1 := ⟨w_856, w_857, w_858, w_846, w_374, cd_yX9_firstEar⟩
theorem cd_yX9_clip : Cd yX9_clip 2 := ⟨by decide +kernel, by decide +kernel, by decide +kernel⟩
theorem cV_X9_85 : CV RX9 85 yX9_clip cX9_clip 7 none 2 := ⟨w_859, w_860, w_861, w_846, w_378, cd_yX9_clip⟩
theorem cd_yX9_paint : Cd yX9_paint 1 := ⟨by decide +kernel, by decide +kernel, by decide +kernel⟩
theorem cV_X9_89 : CV RX9 89 yX9_paint cX9_paint 6 none 1 := ⟨w_862, w_863, w_864, w_846, w_379, cd_yX9_paint⟩
theorem cd_yX9_ringAt : Cd yX9_ringAt 1 := ⟨by decide +kernel, by decide +kernel, by decide +kernel⟩
theorem cV_X9_93 : CV RX9 93 yX9_ringAt cX9_ringAt 3 (some .int) 1 := ⟨w_865, w_866, w_867, w_846, w_375, cd_yX9_ringAt⟩
theorem cd_yX9_isFreeOfOthers : Cd yX9_isFreeOfOthers 1 := ⟨by decide +kernel, by decide +kernel, by decide +kernel⟩
theorem cV_X9_96 : CV RX9 96 yX9_isFreeOfOthers cX9_isFreeOfOthers 7 (some .boolean) 1 := ⟨w_868, w_869, w_870, w_846, w_376, cd_yX9_isFreeOfOthers⟩
theorem cd_yX9_inTriangle : Cd yX9_inTriangle 4 := ⟨by decide +kernel, by decide +kernel, by decide +kernel⟩
theorem cV_X9_100 : CV RX9 100 yX9_inTriangle cX9_inTriangle 8 (some .boolean) 4 := ⟨w_871, w_872, w_873, w_846, w_377, cd_yX9_inTriangle⟩
theorem cd_yX9_tint : Cd yX9_tint 2 := ⟨by decide +kernel, by decide +kernel, by decide +kernel⟩
theorem cV_X9_107 : CV RX9 107 yX9_tint cX9_tint 3 none 2 := ⟨w_874, w_875, w_876, w_846, w_380, cd_yX9_tint⟩
theorem cd_yX9_tintOf : Cd yX9_tintOf 1 := ⟨by decide +kernel, by decide +kernel, by decide +kernel⟩
theorem cV_X9_110 : CV RX9 110 yX9_tintOf cX9_tintOf 2 (some .int) 1 := ⟨w_877, w_878, w_879, w_846, w_381, cd_yX9_tintOf⟩
theorem cV_X10_23 : CV RX10 23 yX6_guardX cX6_guardX 2 (some .int) 1 := ⟨w_880, w_699, w_700, w_649, w_330, cd_yX6_guardX⟩
theorem cV_X10_29 : CV RX10 29 yX6_guardY cX6_guardY 2 (some .int) 1 := ⟨w_881, w_702, w_703, w_649, w_331, cd_yX6_guardY⟩
theorem cV_X10_32 : CV RX10 32 yX3_numberAt cX3_numberAt 3 (some .int) 2 := ⟨w_882, w_654, w_655, w_656, w_296, cd_yX3_numberAt⟩
theorem cV_X10_38 : CV RX10 38 yX6_treasureX cX6_treasureX 2 (some .int) 1 := ⟨w_883, w_706, w_707, w_649, w_338, cd_yX6_treasureX⟩
theorem cV_X10_41 : CV RX10 41 yX6_treasureY cX6_treasureY 2 (some .int) 1 := ⟨w_884, w_709, w_710, w_649, w_339, cd_yX6_treasureY⟩
theorem cV_X10_44 : CV RX10 44 yX7_from cX7_from 2 (some .long) 1 := ⟨w_885, w_658, w_659, w_660, w_351, cd_yX7_from⟩
theorem cV_X10_54 : CV RX10 54 yX3_xOf cX3_xOf 2 (some .int) 1 := ⟨w_886, w_785, w_786, w_656, w_297, cd_yX3_xOf⟩
theorem cV_X10_57 : CV RX10 57 yX3_yOf cX3_yOf 2 (some .int) 1 := ⟨w_887, w_788, w_789, w_656, w_298, cd_yX3_yOf⟩
theorem cN_X10_60 : CSN RX10 60 yX11_has cX11_has 3 (some .boolean) 2 := ⟨by decide, w_677, w_678, w_455, cd_yX11_has⟩
theorem cd_yX10_postOf : Cd yX10_postOf 1 := ⟨by decide +kernel, by decide +kernel, by decide +kernel⟩
theorem cV_X10_64 : CV RX10 64 yX10_postOf cX10_postOf 2 (some .int) 1 := ⟨w_888, w_889, w_890, w_891, w_382, cd_yX10_postOf⟩
theorem cd_yX6_reachOf : Cd yX6_reachOf 1 := ⟨by decide +kernel, by decide +kernel, by decide +kernel⟩
theorem cV_X10_67 : CV RX10 67 yX6_reachOf cX6_reachOf 2 (some .int) 1 := ⟨w_892, w_893, w_894, w_649, w_332, cd_yX6_reachOf⟩
theorem cd_yX10_within : Cd yX10_within 2 := ⟨by decide +kernel, by decide +kernel, by decide +kernel⟩
theorem cV_X10_70 : CV RX10 70 yX10_within cX10_within 10 (some .long) 2 := ⟨w_895, w_896, w_897, w_891, w_384, cd_yX10_within⟩
theorem cd_yX10_byGuard : Cd yX10_byGuard 1 := ⟨by decide +kernel, by decide +kernel, by decide +kernel⟩
theorem cV_X10_77 : CV RX10 77 yX10_byGuard cX10_byGuard 2 (some .long) 1 := ⟨w_898, w_899, w_900, w_891, w_385, cd_yX10_byGuard⟩
theorem cd_yX10_byAllBut : Cd yX10_byAllBut 1 := ⟨by decide +kernel, by decide +kernel, by decide +kernel⟩
theorem cV_X10_80 : CV RX10 80 yX10_byAllBut cX10_byAllBut 5 (some .long) 1 := ⟨w_901, w_902, w_903, w_891, w_386, cd_yX10_byAllBut⟩
theorem cS_X10_83 : CS RX10 83 yJ13_bitCount_95d88 cJ13_bitCount_95d88 2 (some .int) 1 := ⟨w_904, w_830, w_815, w_644, cd_yJ13_bitCount_95d88⟩
theorem cV_X10_89 : CV RX10 89 yX3_everyPoint cX3_everyPoint 1 (some .long) 0 := ⟨w_905, w_675, w_676, w_656, w_299, cd_yX3_everyPoint⟩
theorem cd_yX10_bestPostFor : Cd yX10_bestPostFor 1 := ⟨by decide +kernel, by decide +kernel, by decide +kernel⟩
theorem cV_X10_95 : CV RX10 95 yX10_bestPostFor cX10_bestPostFor 5 (some .int) 1 := ⟨w_906, w_907, w_908, w_891, w_389, cd_yX10_bestPostFor⟩
theorem cd_yX10_placeOfTreasure : Cd yX10_placeOfTreasure 1 := ⟨by decide +kernel, by decide +kernel, by decide +kernel⟩
theorem cV_X10_101 : CV RX10 101 yX10_placeOfTreasure cX10_placeOfTreasure 2 (some .int) 1 := ⟨w_909, w_910, w_911, w_891, w_383, cd_yX10_placeOfTreasure⟩
theorem cd_yX6_worthOf : Cd yX6_worthOf 1 := ⟨by decide +kernel, by decide +kernel, by decide +kernel⟩
theorem cV_X10_104 : CV RX10 104 yX6_worthOf cX6_worthOf 2 (some .int) 1 := ⟨w_912, w_913, w_914, w_649, w_340, cd_yX6_worthOf⟩
theorem cd_yX10_valueIn : Cd yX10_valueIn 1 := ⟨by decide +kernel, by decide +kernel, by decide +kernel⟩
theorem cV_X10_107 : CV RX10 107 yX10_valueIn cX10_valueIn 6 (some .int) 1 := ⟨w_915, w_916, w_917, w_891, w_391, cd_yX10_valueIn⟩
theorem cd_yX2_addWord : Cd yX2_addWord 1 := ⟨by decide +kernel, by decide +kernel, by decide +kernel⟩
theorem cV_X11_119 : CV RX11 119 yX2_addWord cX2_addWord 3 none 1 := ⟨w_918, w_919, w_920, w_688, w_289, cd_yX2_addWord⟩
theorem cd_yX5_parse : Cd yX5_parse 1 := ⟨by decide +kernel, by decide +kernel, by decide +kernel⟩
theorem cV_X11_130 : CV RX11 130 yX5_parse cX5_parse 3 (some .int) 1 := ⟨w_921, w_922, w_923, w_750, w_313, cd_yX5_parse⟩
theorem cd_yX1_clear : Cd yX1_clear 0 := ⟨by decide +kernel, by decide +kernel, by decide +kernel⟩
theorem cV_X11_142 : CV RX11 142 yX1_clear cX1_clear 1 none 0 := ⟨w_924, w_925, w_926, w_927, w_286, cd_yX1_clear⟩
theorem cV_X11_145 : CV RX11 145 yX6_clear cX6_clear 1 none 0 := ⟨w_928, w_738, w_739, w_649, w_320, cd_yX6_clear⟩
theorem cd_yX11_replacePlan : Cd yX11_replacePlan 1 := ⟨by decide +kernel, by decide +kernel, by decide +kernel⟩
theorem cV_X11_146 : CV RX11 146 yX11_replacePlan cX11_replacePlan 2 none 1 := ⟨w_929, w_930, w_931, w_678, w_458, cd_yX11_replacePlan⟩
theorem cd_yX11_needPolygon : Cd yX11_needPolygon 0 := ⟨by decide +kernel, by decide +kernel, by decide +kernel⟩
theorem cV_X11_155 : CV RX11 155 yX11_needPolygon cX11_needPolygon 1 none 0 := ⟨w_932, w_933, w_934, w_678, w_452, cd_yX11_needPolygon⟩
theorem cd_yX11_needIndex : Cd yX11_needIndex 2 := ⟨by decide +kernel, by decide +kernel, by decide +kernel⟩
theorem cS_X11_158 : CS RX11 158 yX11_needIndex cX11_needIndex 2 none 2 := ⟨w_935, w_936, w_678, w_453, cd_yX11_needIndex⟩
theorem cV_X11_162 : CV RX11 162 yX6_cornerX cX6_cornerX 2 (some .int) 1 := ⟨w_937, w_647, w_648, w_649, w_322, cd_yX6_cornerX⟩
theorem cV_X11_165 : CV RX11 165 yX6_cornerY cX6_cornerY 2 (some .int) 1 := ⟨w_938, w_651, w_652, w_649, w_323, cd_yX6_cornerY⟩
theorem cS_X11_168 : CS RX11 168 yX4_signedArea cX4_signedArea 4 (some .int) 1 := ⟨w_939, w_719, w_697, w_303, cd_yX4_signedArea⟩
theorem cd_yX4_reflexSet : Cd yX4_reflexSet 1 := ⟨by decide +kernel, by decide +kernel, by decide +kernel⟩
theorem cS_X11_179 : CS RX11 179 yX4_reflexSet cX4_reflexSet 5 (some .int) 1 := ⟨w_940, w_941, w_697, w_304, cd_yX4_reflexSet⟩
theorem cV_X11_182 : CV RX11 182 yX3_xOf cX3_xOf 2 (some .int) 1 := ⟨w_942, w_785, w_786, w_656, w_297, cd_yX3_xOf⟩
theorem cV_X11_185 : CV RX11 185 yX3_yOf cX3_yOf 2 (some .int) 1 := ⟨w_943, w_788, w_789, w_656, w_298, cd_yX3_yOf⟩
theorem cV_X11_188 : CV RX11 188 yX3_numberAt cX3_numberAt 3 (some .int) 2 := ⟨w_944, w_654, w_655, w_656, w_296, cd_yX3_numberAt⟩
theorem cd_yX7_learn : Cd yX7_learn 0 := ⟨by decide +kernel, by decide +kernel, by decide +kernel⟩
theorem cV_X11_196 : CV RX11 196 yX7_learn cX7_learn 2 none 0 := ⟨w_945, w_946, w_947, w_660, w_344, cd_yX7_learn⟩
theorem cV_X11_199 : CV RX11 199 yX7_from cX7_from 2 (some .long) 1 := ⟨w_948, w_658, w_659, w_660, w_351, cd_yX7_from⟩
theorem cS_X11_203 : CS RX11 203 yX11_has cX11_has 3 (some .boolean) 2 := ⟨w_949, w_677, w_678, w_455, cd_yX11_has⟩
theorem cd_yX7_seeingAll : Cd yX7_seeingAll 0 := ⟨by decide +kernel, by decide +kernel, by decide +kernel⟩
theorem cV_X11_207 : CV RX11 207 yX7_seeingAll cX7_seeingAll 4 (some .long) 0 := ⟨w_950, w_951, w_952, w_660, w_354, cd_yX7_seeingAll⟩
theorem cV_X11_211 : CV RX11 211 yX7_links cX7_links 6 (some .int) 2 := ⟨w_953, w_820, w_821, w_660, w_355, cd_yX7_links⟩
theorem cd_yX7_mostLinks : Cd yX7_mostLinks 0 := ⟨by decide +kernel, by decide +kernel, by decide +kernel⟩
theorem cV_X11_214 : CV RX11 214 yX7_mostLinks cX7_mostLinks 3 (some .int) 0 := ⟨w_954, w_955, w_956, w_660, w_357, cd_yX7_mostLinks⟩
theorem cV_X11_218 : CV RX11 218 yX7_lastReached cX7_lastReached 7 (some .int) 1 := ⟨w_957, w_817, w_818, w_660, w_356, cd_yX7_lastReached⟩
theorem cV_X11_221 : CV RX11 221 yX7_fromEdge cX7_fromEdge 5 (some .long) 1 := ⟨w_958, w_666, w_667, w_660, w_353, cd_yX7_fromEdge⟩
theorem cd_yX11_needRange : Cd yX11_needRange 3 := ⟨by decide +kernel, by decide +kernel, by decide +kernel⟩
theorem cS_X11_224 : CS RX11 224 yX11_needRange cX11_needRange 3 none 3 := ⟨w_959, w_960, w_678, w_454, cd_yX11_needRange⟩
theorem cd_yX9_learn : Cd yX9_learn 0 := ⟨by decide +kernel, by decide +kernel, by decide +kernel⟩
theorem cV_X11_228 : CV RX11 228 yX9_learn cX9_learn 4 none 0 := ⟨w_961, w_962, w_963, w_846, w_373, cd_yX9_learn⟩
theorem cV_X11_229 : CV RX11 229 yX9_cornerOf cX9_cornerOf 3 (some .int) 2 := ⟨w_964, w_844, w_845, w_846, w_368, cd_yX9_cornerOf⟩
theorem cd_yX9_areaOf : Cd yX9_areaOf 1 := ⟨by decide +kernel, by decide +kernel, by decide +kernel⟩
theorem cV_X11_232 : CV RX11 232 yX9_areaOf cX9_areaOf 2 (some .int) 1 := ⟨w_965, w_966, w_967, w_846, w_369, cd_yX9_areaOf⟩
theorem cV_X11_235 : CV RX11 235 yX9_colourOf cX9_colourOf 2 (some .int) 1 := ⟨w_968, w_853, w_854, w_846, w_370, cd_yX9_colourOf⟩
theorem cd_yX9_rarestColourSet : Cd yX9_rarestColourSet 0 := ⟨by decide +kernel, by decide +kernel, by decide +kernel⟩
theorem cV_X11_238 : CV RX11 238 yX9_rarestColourSet cX9_rarestColourSet 4 (some .int) 0 := ⟨w_969, w_970, w_971, w_846, w_371, cd_yX9_rarestColourSet⟩
theorem cd_yX0_fewestVertices : Cd yX0_fewestVertices 0 := ⟨by decide +kernel, by decide +kernel, by decide +kernel⟩
theorem cV_X11_241 : CV RX11 241 yX0_fewestVertices cX0_fewestVertices 2 (some .int) 0 := ⟨w_972, w_973, w_974, w_664, w_279, cd_yX0_fewestVertices⟩
theorem cd_yX0_fewestEdges : Cd yX0_fewestEdges 0 := ⟨by decide +kernel, by decide +kernel, by decide +kernel⟩
theorem cV_X11_244 : CV RX11 244 yX0_fewestEdges cX0_fewestEdges 2 (some .int) 0 := ⟨w_975, w_976, w_977, w_664, w_280, cd_yX0_fewestEdges⟩
theorem cd_yX0_pointsNeeded : Cd yX0_pointsNeeded 0 := ⟨by decide +kernel, by decide +kernel, by decide +kernel⟩
theorem cV_X11_247 : CV RX11 247 yX0_pointsNeeded cX0_pointsNeeded 2 (some .int) 0 := ⟨w_978, w_979, w_980, w_664, w_283, cd_yX0_pointsNeeded⟩
theorem cd_yX0_pickedPoint : Cd yX0_pickedPoint 1 := ⟨by decide +kernel, by decide +kernel, by decide +kernel⟩
theorem cV_X11_250 : CV RX11 250 yX0_pickedPoint cX0_pickedPoint 2 (some .int) 1 := ⟨w_981, w_982, w_983, w_664, w_284, cd_yX0_pickedPoint⟩
theorem cd_yX8_mostWitnesses : Cd yX8_mostWitnesses 0 := ⟨by decide +kernel, by decide +kernel, by decide +kernel⟩
theorem cV_X11_253 : CV RX11 253 yX8_mostWitnesses cX8_mostWitnesses 2 (some .int) 0 := ⟨w_984, w_985, w_986, w_828, w_359, cd_yX8_mostWitnesses⟩
theorem cd_yX8_pickedWitness : Cd yX8_pickedWitness 1 := ⟨by decide +kernel, by decide +kernel, by decide +kernel⟩
theorem cV_X11_256 : CV RX11 256 yX8_pickedWitness cX8_pickedWitness 2 (some .int) 1 := ⟨w_987, w_988, w_989, w_828, w_360, cd_yX8_pickedWitness⟩
theorem cd_yX8_mostHidden : Cd yX8_mostHidden 0 := ⟨by decide +kernel, by decide +kernel, by decide +kernel⟩
theorem cV_X11_259 : CV RX11 259 yX8_mostHidden cX8_mostHidden 1 (some .int) 0 := ⟨w_990, w_991, w_992, w_828, w_362, cd_yX8_mostHidden⟩
theorem cV_X11_265 : CV RX11 265 yX10_postOf cX10_postOf 2 (some .int) 1 := ⟨w_993, w_889, w_890, w_891, w_382, cd_yX10_postOf⟩
theorem cV_X11_268 : CV RX11 268 yX6_reachOf cX6_reachOf 2 (some .int) 1 := ⟨w_994, w_893, w_894, w_649, w_332, cd_yX6_reachOf⟩
theorem cV_X11_271 : CV RX11 271 yX10_byGuard cX10_byGuard 2 (some .long) 1 := ⟨w_995, w_899, w_900, w_891, w_385, cd_yX10_byGuard⟩
theorem cV_X11_274 : CV RX11 274 yX3_everyPoint cX3_everyPoint 1 (some .long) 0 := ⟨w_996, w_675, w_676, w_656, w_299, cd_yX3_everyPoint⟩
theorem cV_X11_277 : CV RX11 277 yX10_byAllBut cX10_byAllBut 5 (some .long) 1 := ⟨w_997, w_902, w_903, w_891, w_386, cd_yX10_byAllBut⟩
theorem cd_yX10_guardsOn : Cd yX10_guardsOn 1 := ⟨by decide +kernel, by decide +kernel, by decide +kernel⟩
theorem cV_X11_282 : CV RX11 282 yX10_guardsOn cX10_guardsOn 4 (some .int) 1 := ⟨w_998, w_999, w_1000, w_891, w_387, cd_yX10_guardsOn⟩
theorem cd_yX10_spareGuards : Cd yX10_spareGuards 0 := ⟨by decide +kernel, by decide +kernel, by decide +kernel⟩
theorem cV_X11_285 : CV RX11 285 yX10_spareGuards cX10_spareGuards 5 (some .int) 0 := ⟨w_1001, w_1002, w_1003, w_891, w_388, cd_yX10_spareGuards⟩
theorem cV_X11_288 : CV RX11 288 yX10_bestPostFor cX10_bestPostFor 5 (some .int) 1 := ⟨w_1004, w_907, w_908, w_891, w_389, cd_yX10_bestPostFor⟩
theorem cd_yX10_greedyCount : Cd yX10_greedyCount 0 := ⟨by decide +kernel, by decide +kernel, by decide +kernel⟩
theorem cV_X11_292 : CV RX11 292 yX10_greedyCount cX10_greedyCount 5 (some .int) 0 := ⟨w_1005, w_1006, w_1007, w_891, w_390, cd_yX10_greedyCount⟩
theorem cV_X11_298 : CV RX11 298 yX10_placeOfTreasure cX10_placeOfTreasure 2 (some .int) 1 := ⟨w_1008, w_910, w_911, w_891, w_383, cd_yX10_placeOfTreasure⟩
theorem cV_X11_301 : CV RX11 301 yX10_valueIn cX10_valueIn 6 (some .int) 1 := ⟨w_1009, w_916, w_917, w_891, w_391, cd_yX10_valueIn⟩
theorem cd_yX10_valueAfterBestMove : Cd yX10_valueAfterBestMove 0 := ⟨by decide +kernel, by decide +kernel, by decide +kernel⟩
theorem cV_X11_304 : CV RX11 304 yX10_valueAfterBestMove cX10_valueAfterBestMove 6 (some .int) 0 := ⟨w_1010, w_1011, w_1012, w_891, w_392, cd_yX10_valueAfterBestMove⟩
theorem cd_yX11_signAt : Cd yX11_signAt 3 := ⟨by decide +kernel, by decide +kernel, by decide +kernel⟩
theorem cV_X11_307 : CV RX11 307 yX11_signAt cX11_signAt 6 (some .int) 3 := ⟨w_1013, w_1014, w_1015, w_678, w_459, cd_yX11_signAt⟩
theorem cd_yX1_keep : Cd yX1_keep 1 := ⟨by decide +kernel, by decide +kernel, by decide +kernel⟩
theorem cV_X11_316 : CV RX11 316 yX1_keep cX1_keep 3 none 1 := ⟨w_1016, w_1017, w_1018, w_927, w_287, cd_yX1_keep⟩
theorem cV_X11_319 : CV RX11 319 yX6_putGuard cX6_putGuard 4 none 3 := ⟨w_1019, w_775, w_776, w_649, w_333, cd_yX6_putGuard⟩
theorem cd_yX6_dropGuard : Cd yX6_dropGuard 1 := ⟨by decide +kernel, by decide +kernel, by decide +kernel⟩
theorem cV_X11_322 : CV RX11 322 yX6_dropGuard cX6_dropGuard 3 none 1 := ⟨w_1020, w_1021, w_1022, w_649, w_336, cd_yX6_dropGuard⟩
theorem cd_yX6_postGuard : Cd yX6_postGuard 3 := ⟨by decide +kernel, by decide +kernel, by decide +kernel⟩
theorem cV_X11_325 : CV RX11 325 yX6_postGuard cX6_postGuard 4 none 3 := ⟨w_1023, w_1024, w_1025, w_649, w_334, cd_yX6_postGuard⟩
theorem cd_yX6_giveReach : Cd yX6_giveReach 2 := ⟨by decide +kernel, by decide +kernel, by decide +kernel⟩
theorem cV_X11_328 : CV RX11 328 yX6_giveReach cX6_giveReach 3 none 2 := ⟨w_1026, w_1027, w_1028, w_649, w_335, cd_yX6_giveReach⟩
theorem cV_X11_331 : CV RX11 331 yX6_copyFrom cX6_copyFrom 2 none 1 := ⟨w_1029, w_683, w_684, w_649, w_321, cd_yX6_copyFrom⟩
theorem cd_yX6_shiftCorner : Cd yX6_shiftCorner 3 := ⟨by decide +kernel, by decide +kernel, by decide +kernel⟩
theorem cV_X11_334 : CV RX11 334 yX6_shiftCorner cX6_shiftCorner 4 none 3 := ⟨w_1030, w_1031, w_1032, w_649, w_327, cd_yX6_shiftCorner⟩
theorem cd_yX11_adoptDraft : Cd yX11_adoptDraft 0 := ⟨by decide +kernel, by decide +kernel, by decide +kernel⟩
theorem cV_X11_337 : CV RX11 337 yX11_adoptDraft cX11_adoptDraft 1 (some .int) 0 := ⟨w_1033, w_1034, w_1035, w_678, w_457, cd_yX11_adoptDraft⟩
theorem cV_X11_342 : CV RX11 342 yX6_putCorner cX6_putCorner 5 none 3 := ⟨w_1036, w_766, w_767, w_649, w_326, cd_yX6_putCorner⟩
theorem cd_yX6_dropCorner : Cd yX6_dropCorner 1 := ⟨by decide +kernel, by decide +kernel, by decide +kernel⟩
theorem cV_X11_345 : CV RX11 345 yX6_dropCorner cX6_dropCorner 3 none 1 := ⟨w_1037, w_1038, w_1039, w_649, w_328, cd_yX6_dropCorner⟩
theorem cd_yX1_takeInto : Cd yX1_takeInto 1 := ⟨by decide +kernel, by decide +kernel, by decide +kernel⟩
theorem cV_X11_351 : CV RX11 351 yX1_takeInto cX1_takeInto 3 none 1 := ⟨w_1040, w_1041, w_1042, w_927, w_288, cd_yX1_takeInto⟩
theorem cd_yX11_savedIn : Cd yX11_savedIn 1 := ⟨by decide +kernel, by decide +kernel, by decide +kernel⟩
theorem cV_X11_354 : CV RX11 354 yX11_savedIn cX11_savedIn 2 (some (.object "GalleryGuards$Plan")) 1 := ⟨w_1043, w_1044, w_1045, w_678, w_456, cd_yX11_savedIn⟩
theorem cS_X11_366 : CS RX11 366 yX4_isSimple cX4_isSimple 3 (some .boolean) 1 := ⟨w_1046, w_755, w_697, w_305, cd_yX4_isSimple⟩
theorem cV_X11_370 : CV RX11 370 yX3_fill cX3_fill 5 (some .boolean) 1 := ⟨w_1047, w_757, w_758, w_656, w_295, cd_yX3_fill⟩
theorem cd_yX3_holdsAllOf : Cd yX3_holdsAllOf 1 := ⟨by decide +kernel, by decide +kernel, by decide +kernel⟩
theorem cV_X11_373 : CV RX11 373 yX3_holdsAllOf cX3_holdsAllOf 3 (some .boolean) 1 := ⟨w_1048, w_1049, w_1050, w_656, w_300, cd_yX3_holdsAllOf⟩
theorem cd_yX7_forget : Cd yX7_forget 0 := ⟨by decide +kernel, by decide +kernel, by decide +kernel⟩
theorem cV_X11_378 : CV RX11 378 yX7_forget cX7_forget 1 none 0 := ⟨w_1051, w_1052, w_1053, w_660, w_343, cd_yX7_forget⟩
theorem cd_yX9_forget : Cd yX9_forget 0 := ⟨by decide +kernel, by decide +kernel, by decide +kernel⟩
theorem cV_X11_381 : CV RX11 381 yX9_forget cX9_forget 1 none 0 := ⟨w_1054, w_1055, w_1056, w_846, w_367, cd_yX9_forget⟩
theorem cd_yX0_forget : Cd yX0_forget 0 := ⟨by decide +kernel, by decide +kernel, by decide +kernel⟩
theorem cV_X11_382 : CV RX11 382 yX0_forget cX0_forget 1 none 0 := ⟨w_1057, w_1058, w_1059, w_664, w_278, cd_yX0_forget⟩
theorem cd_yX8_forget : Cd yX8_forget 0 := ⟨by decide +kernel, by decide +kernel, by decide +kernel⟩
theorem cV_X11_383 : CV RX11 383 yX8_forget cX8_forget 1 none 0 := ⟨w_1060, w_1061, w_1062, w_828, w_358, cd_yX8_forget⟩
theorem cd_yX6_hasGuardAt : Cd yX6_hasGuardAt 2 := ⟨by decide +kernel, by decide +kernel, by decide +kernel⟩
theorem cV_X11_384 : CV RX11 384 yX6_hasGuardAt cX6_hasGuardAt 4 (some .boolean) 2 := ⟨w_1063, w_1064, w_1065, w_649, w_337, cd_yX6_hasGuardAt⟩
theorem cd_yX6_hasTreasureAt : Cd yX6_hasTreasureAt 2 := ⟨by decide +kernel, by decide +kernel, by decide +kernel⟩
theorem cV_X11_388 : CV RX11 388 yX6_hasTreasureAt cX6_hasTreasureAt 4 (some .boolean) 2 := ⟨w_1066, w_1067, w_1068, w_649, w_342, cd_yX6_hasTreasureAt⟩
theorem cd_yX6_hasCornerAt : Cd yX6_hasCornerAt 2 := ⟨by decide +kernel, by decide +kernel, by decide +kernel⟩
theorem cV_X11_391 : CV RX11 391 yX6_hasCornerAt cX6_hasCornerAt 4 (some .boolean) 2 := ⟨w_1069, w_1070, w_1071, w_649, w_329, cd_yX6_hasCornerAt⟩
theorem cd_yX12_refuse : Cd yX12_refuse 2 := ⟨by decide +kernel, by decide +kernel, by decide +kernel⟩
theorem cV_X12_86 : CV RX12 86 yX12_refuse cX12_refuse 3 (some .boolean) 2 := ⟨w_1072, w_1073, w_1074, w_1075, w_461, cd_yX12_refuse⟩
theorem cd_yX12_seen : Cd yX12_seen 1 := ⟨by decide +kernel, by decide +kernel, by decide +kernel⟩
theorem cV_X12_102 : CV RX12 102 yX12_seen cX12_seen 2 (some .int) 1 := ⟨w_1076, w_1077, w_1078, w_1075, w_467, cd_yX12_seen⟩
theorem cd_yX12_isLetter : Cd yX12_isLetter 1 := ⟨by decide +kernel, by decide +kernel, by decide +kernel⟩
theorem cS_X12_112 : CS RX12 112 yX12_isLetter cX12_isLetter 1 (some .boolean) 1 := ⟨w_1079, w_1080, w_1075, w_468, cd_yX12_isLetter⟩
theorem cd_yX12_isDigit : Cd yX12_isDigit 1 := ⟨by decide +kernel, by decide +kernel, by decide +kernel⟩
theorem cS_X12_119 : CS RX12 119 yX12_isDigit cX12_isDigit 1 (some .boolean) 1 := ⟨w_1081, w_1082, w_1075, w_469, cd_yX12_isDigit⟩
theorem cd_yX12_token : Cd yX12_token 0 := ⟨by decide +kernel, by decide +kernel, by decide +kernel⟩
theorem cV_X12_131 : CV RX12 131 yX12_token cX12_token 3 none 0 := ⟨w_1083, w_1084, w_1085, w_1075, w_470, cd_yX12_token⟩
theorem cd_yX12_fails : Cd yX12_fails 1 := ⟨by decide +kernel, by decide +kernel, by decide +kernel⟩
theorem cV_X12_144 : CV RX12 144 yX12_fails cX12_fails 2 none 1 := ⟨w_1086, w_1087, w_1088, w_1075, w_471, cd_yX12_fails⟩
theorem cd_yX12_in : Cd yX12_in 3 := ⟨by decide +kernel, by decide +kernel, by decide +kernel⟩
theorem cS_X12_148 : CS RX12 148 yX12_in cX12_in 3 (some .boolean) 3 := ⟨w_1089, w_1090, w_1075, w_460, cd_yX12_in⟩
theorem cd_yX12_numberHere : Cd yX12_numberHere 2 := ⟨by decide +kernel, by decide +kernel, by decide +kernel⟩
theorem cV_X12_152 : CV RX12 152 yX12_numberHere cX12_numberHere 3 (some .int) 2 := ⟨w_1091, w_1092, w_1093, w_1075, w_474, cd_yX12_numberHere⟩
theorem cd_yX12_goesOn : Cd yX12_goesOn 0 := ⟨by decide +kernel, by decide +kernel, by decide +kernel⟩
theorem cV_X12_156 : CV RX12 156 yX12_goesOn cX12_goesOn 1 none 0 := ⟨w_1094, w_1095, w_1096, w_1075, w_472, cd_yX12_goesOn⟩
theorem cd_yX12_isWord : Cd yX12_isWord 1 := ⟨by decide +kernel, by decide +kernel, by decide +kernel⟩
theorem cV_X12_161 : CV RX12 161 yX12_isWord cX12_isWord 3 (some .boolean) 1 := ⟨w_1097, w_1098, w_1099, w_1075, w_473, cd_yX12_isWord⟩
theorem cd_yX12_takes : Cd yX12_takes 2 := ⟨by decide +kernel, by decide +kernel, by decide +kernel⟩
theorem cV_X12_165 : CV RX12 165 yX12_takes cX12_takes 4 (some .int) 2 := ⟨w_1100, w_1101, w_1102, w_1075, w_475, cd_yX12_takes⟩
theorem cd_yX12_isGood : Cd yX12_isGood 1 := ⟨by decide +kernel, by decide +kernel, by decide +kernel⟩
theorem cS_X12_168 : CS RX12 168 yX12_isGood cX12_isGood 1 (some .boolean) 1 := ⟨w_1103, w_1104, w_1075, w_491, cd_yX12_isGood⟩
theorem cd_yX12_isIn : Cd yX12_isIn 4 := ⟨by decide +kernel, by decide +kernel, by decide +kernel⟩
theorem cS_X12_172 : CS RX12 172 yX12_isIn cX12_isIn 16 (some .boolean) 4 := ⟨w_1105, w_1106, w_1075, w_486, cd_yX12_isIn⟩
theorem cd_yX12_polygonLine : Cd yX12_polygonLine 0 := ⟨by decide +kernel, by decide +kernel, by decide +kernel⟩
theorem cV_X12_178 : CV RX12 178 yX12_polygonLine cX12_polygonLine 3 none 0 := ⟨w_1107, w_1108, w_1109, w_1075, w_476, cd_yX12_polygonLine⟩
theorem cd_yX12_thingLine : Cd yX12_thingLine 1 := ⟨by decide +kernel, by decide +kernel, by decide +kernel⟩
theorem cV_X12_185 : CV RX12 185 yX12_thingLine cX12_thingLine 7 none 1 := ⟨w_1110, w_1111, w_1112, w_1075, w_477, cd_yX12_thingLine⟩
theorem cd_yX12_reads : Cd yX12_reads 1 := ⟨by decide +kernel, by decide +kernel, by decide +kernel⟩
theorem cV_X12_189 : CV RX12 189 yX12_reads cX12_reads 3 none 1 := ⟨w_1113, w_1114, w_1115, w_1075, w_478, cd_yX12_reads⟩
theorem cd_yX12_laysPoints : Cd yX12_laysPoints 0 := ⟨by decide +kernel, by decide +kernel, by decide +kernel⟩
theorem cV_X12_198 : CV RX12 198 yX12_laysPoints cX12_laysPoints 4 none 0 := ⟨w_1116, w_1117, w_1118, w_1075, w_492, cd_yX12_laysPoints⟩
theorem cd_yX12_cross : Cd yX12_cross 6 := ⟨by decide +kernel, by decide +kernel, by decide +kernel⟩
theorem cS_X12_204 : CS RX12 204 yX12_cross cX12_cross 12 (some .long) 6 := ⟨w_1119, w_1120, w_1075, w_480, cd_yX12_cross⟩
theorem cd_yX12_after : Cd yX12_after 2 := ⟨by decide +kernel, by decide +kernel, by decide +kernel⟩
theorem cS_X12_208 : CS RX12 208 yX12_after cX12_after 2 (some .int) 2 := ⟨w_1121, w_1122, w_1075, w_482, cd_yX12_after⟩
theorem cd_yX12_isOn : Cd yX12_isOn 6 := ⟨by decide +kernel, by decide +kernel, by decide +kernel⟩
theorem cS_X12_212 : CS RX12 212 yX12_isOn cX12_isOn 13 (some .boolean) 6 := ⟨w_1123, w_1124, w_1075, w_483, cd_yX12_isOn⟩
theorem cd_yX12_isOnEdge : Cd yX12_isOnEdge 5 := ⟨by decide +kernel, by decide +kernel, by decide +kernel⟩
theorem cS_X12_216 : CS RX12 216 yX12_isOnEdge cX12_isOnEdge 9 (some .boolean) 5 := ⟨w_1125, w_1126, w_1075, w_484, cd_yX12_isOnEdge⟩
theorem cd_yX12_isOnBoundary : Cd yX12_isOnBoundary 4 := ⟨by decide +kernel, by decide +kernel, by decide +kernel⟩
theorem cS_X12_220 : CS RX12 220 yX12_isOnBoundary cX12_isOnBoundary 8 (some .boolean) 4 := ⟨w_1127, w_1128, w_1075, w_485, cd_yX12_isOnBoundary⟩
theorem cd_yX12_sign : Cd yX12_sign 1 := ⟨by decide +kernel, by decide +kernel, by decide +kernel⟩
theorem cS_X12_223 : CS RX12 223 yX12_sign cX12_sign 2 (some .int) 1 := ⟨w_1129, w_1130, w_1075, w_481, cd_yX12_sign⟩
theorem cd_yX12_isBent : Cd yX12_isBent 2 := ⟨by decide +kernel, by decide +kernel, by decide +kernel⟩
theorem cS_X12_227 : CS RX12 227 yX12_isBent cX12_isBent 8 (some .boolean) 2 := ⟨w_1131, w_1132, w_1075, w_488, cd_yX12_isBent⟩
theorem cd_yX12_meet : Cd yX12_meet 3 := ⟨by decide +kernel, by decide +kernel, by decide +kernel⟩
theorem cS_X12_231 : CS RX12 231 yX12_meet cX12_meet 13 (some .boolean) 3 := ⟨w_1133, w_1134, w_1075, w_487, cd_yX12_meet⟩
theorem cd_yX12_isSimple : Cd yX12_isSimple 1 := ⟨by decide +kernel, by decide +kernel, by decide +kernel⟩
theorem cS_X12_235 : CS RX12 235 yX12_isSimple cX12_isSimple 4 (some .boolean) 1 := ⟨w_1135, w_1136, w_1075, w_489, cd_yX12_isSimple⟩
theorem cd_yX12_pointsOf : Cd yX12_pointsOf 1 := ⟨by decide +kernel, by decide +kernel, by decide +kernel⟩
theorem cS_X12_238 : CS RX12 238 yX12_pointsOf cX12_pointsOf 4 (some .int) 1 := ⟨w_1137, w_1138, w_1075, w_490, cd_yX12_pointsOf⟩
theorem cd_yX12_told : Cd yX12_told 1 := ⟨by decide +kernel, by decide +kernel, by decide +kernel⟩
theorem cV_X12_244 : CV RX12 244 yX12_told cX12_told 2 (some .int) 1 := ⟨w_1139, w_1140, w_1141, w_1075, w_497, cd_yX12_told⟩
theorem cd_yX12_noPolygon : Cd yX12_noPolygon 0 := ⟨by decide +kernel, by decide +kernel, by decide +kernel⟩
theorem cV_X12_247 : CV RX12 247 yX12_noPolygon cX12_noPolygon 1 (some .boolean) 0 := ⟨w_1142, w_1143, w_1144, w_1075, w_462, cd_yX12_noPolygon⟩
theorem cd_yX12_noVertex : Cd yX12_noVertex 1 := ⟨by decide +kernel, by decide +kernel, by decide +kernel⟩
theorem cV_X12_251 : CV RX12 251 yX12_noVertex cX12_noVertex 2 (some .boolean) 1 := ⟨w_1145, w_1146, w_1147, w_1075, w_503, cd_yX12_noVertex⟩
theorem cd_yX12_noPoint : Cd yX12_noPoint 1 := ⟨by decide +kernel, by decide +kernel, by decide +kernel⟩
theorem cV_X12_254 : CV RX12 254 yX12_noPoint cX12_noPoint 2 (some .boolean) 1 := ⟨w_1148, w_1149, w_1150, w_1075, w_504, cd_yX12_noPoint⟩
theorem cd_yX12_at : Cd yX12_at 2 := ⟨by decide +kernel, by decide +kernel, by decide +kernel⟩
theorem cV_X12_257 : CV RX12 257 yX12_at cX12_at 3 (some .int) 2 := ⟨w_1151, w_1152, w_1153, w_1075, w_493, cd_yX12_at⟩
theorem cd_yX12_turned : Cd yX12_turned 0 := ⟨by decide +kernel, by decide +kernel, by decide +kernel⟩
theorem cV_X12_260 : CV RX12 260 yX12_turned cX12_turned 4 (some .int) 0 := ⟨w_1154, w_1155, w_1156, w_1075, w_511, cd_yX12_turned⟩
theorem cd_yX12_turn : Cd yX12_turn 3 := ⟨by decide +kernel, by decide +kernel, by decide +kernel⟩
theorem cV_X12_263 : CV RX12 263 yX12_turn cX12_turn 5 (some .int) 3 := ⟨w_1157, w_1158, w_1159, w_1075, w_513, cd_yX12_turn⟩
theorem cd_yX12_isFree : Cd yX12_isFree 5 := ⟨by decide +kernel, by decide +kernel, by decide +kernel⟩
theorem cV_X12_275 : CV RX12 275 yX12_isFree cX12_isFree 22 (some .boolean) 5 := ⟨w_1160, w_1161, w_1162, w_1075, w_516, cd_yX12_isFree⟩
theorem cd_yX12_laysSight : Cd yX12_laysSight 0 := ⟨by decide +kernel, by decide +kernel, by decide +kernel⟩
theorem cV_X12_279 : CV RX12 279 yX12_laysSight cX12_laysSight 3 none 0 := ⟨w_1163, w_1164, w_1165, w_1075, w_517, cd_yX12_laysSight⟩
theorem cd_yX12_has : Cd yX12_has 2 := ⟨by decide +kernel, by decide +kernel, by decide +kernel⟩
theorem cS_X12_282 : CS RX12 282 yX12_has cX12_has 3 (some .boolean) 2 := ⟨w_1166, w_1167, w_1075, w_495, cd_yX12_has⟩
theorem cd_yX12_all : Cd yX12_all 0 := ⟨by decide +kernel, by decide +kernel, by decide +kernel⟩
theorem cV_X12_286 : CV RX12 286 yX12_all cX12_all 1 (some .long) 0 := ⟨w_1168, w_1169, w_1170, w_1075, w_494, cd_yX12_all⟩
theorem cd_yX12_laysLinks : Cd yX12_laysLinks 1 := ⟨by decide +kernel, by decide +kernel, by decide +kernel⟩
theorem cV_X12_290 : CV RX12 290 yX12_laysLinks cX12_laysLinks 8 (some .int) 1 := ⟨w_1171, w_1172, w_1173, w_1075, w_522, cd_yX12_laysLinks⟩
theorem cd_yX12_isEar : Cd yX12_isEar 2 := ⟨by decide +kernel, by decide +kernel, by decide +kernel⟩
theorem cV_X12_293 : CV RX12 293 yX12_isEar cX12_isEar 8 (some .boolean) 2 := ⟨w_1174, w_1175, w_1176, w_1075, w_527, cd_yX12_isEar⟩
theorem cd_yX12_laysTriangle : Cd yX12_laysTriangle 4 := ⟨by decide +kernel, by decide +kernel, by decide +kernel⟩
theorem cV_X12_297 : CV RX12 297 yX12_laysTriangle cX12_laysTriangle 7 none 4 := ⟨w_1177, w_1178, w_1179, w_1075, w_528, cd_yX12_laysTriangle⟩
theorem cd_yX12_noTriangle : Cd yX12_noTriangle 1 := ⟨by decide +kernel, by decide +kernel, by decide +kernel⟩
theorem cV_X12_301 : CV RX12 301 yX12_noTriangle cX12_noTriangle 2 (some .boolean) 1 := ⟨w_1180, w_1181, w_1182, w_1075, w_530, cd_yX12_noTriangle⟩
theorem cd_yX12_laysTriangles : Cd yX12_laysTriangles 0 := ⟨by decide +kernel, by decide +kernel, by decide +kernel⟩
theorem cV_X12_304 : CV RX12 304 yX12_laysTriangles cX12_laysTriangles 5 none 0 := ⟨w_1183, w_1184, w_1185, w_1075, w_529, cd_yX12_laysTriangles⟩
theorem cd_yX12_laysColours : Cd yX12_laysColours 0 := ⟨by decide +kernel, by decide +kernel, by decide +kernel⟩
theorem cV_X12_307 : CV RX12 307 yX12_laysColours cX12_laysColours 8 none 0 := ⟨w_1186, w_1187, w_1188, w_1075, w_533, cd_yX12_laysColours⟩
theorem cd_yX12_ofColour : Cd yX12_ofColour 1 := ⟨by decide +kernel, by decide +kernel, by decide +kernel⟩
theorem cV_X12_310 : CV RX12 310 yX12_ofColour cX12_ofColour 4 (some .int) 1 := ⟨w_1189, w_1190, w_1191, w_1075, w_535, cd_yX12_ofColour⟩
theorem cd_yX12_count : Cd yX12_count 1 := ⟨by decide +kernel, by decide +kernel, by decide +kernel⟩
theorem cS_X12_313 : CS RX12 313 yX12_count cX12_count 5 (some .int) 1 := ⟨w_1192, w_1193, w_1075, w_496, cd_yX12_count⟩
theorem cd_yX12_pointOf : Cd yX12_pointOf 1 := ⟨by decide +kernel, by decide +kernel, by decide +kernel⟩
theorem cV_X12_316 : CV RX12 316 yX12_pointOf cX12_pointOf 2 (some .int) 1 := ⟨w_1194, w_1195, w_1196, w_1075, w_518, cd_yX12_pointOf⟩
theorem cd_yX12_fewest : Cd yX12_fewest 1 := ⟨by decide +kernel, by decide +kernel, by decide +kernel⟩
theorem cV_X12_319 : CV RX12 319 yX12_fewest cX12_fewest 7 (some .int) 1 := ⟨w_1197, w_1198, w_1199, w_1075, w_537, cd_yX12_fewest⟩
theorem cd_yX12_laysGuards : Cd yX12_laysGuards 4 := ⟨by decide +kernel, by decide +kernel, by decide +kernel⟩
theorem cV_X12_323 : CV RX12 323 yX12_laysGuards cX12_laysGuards 7 (some .boolean) 4 := ⟨w_1200, w_1201, w_1202, w_1075, w_540, cd_yX12_laysGuards⟩
theorem cd_yX12_laysGuards_ : Cd yX12_laysGuards_ 0 := ⟨by decide +kernel, by decide +kernel, by decide +kernel⟩
theorem cV_X12_327 : CV RX12 327 yX12_laysGuards_ cX12_laysGuards_ 2 none 0 := ⟨w_1203, w_1204, w_1205, w_1075, w_541, cd_yX12_laysGuards_⟩
theorem cd_yX12_laysWitnesses : Cd yX12_laysWitnesses 4 := ⟨by decide +kernel, by decide +kernel, by decide +kernel⟩
theorem cV_X12_329 : CV RX12 329 yX12_laysWitnesses cX12_laysWitnesses 7 (some .boolean) 4 := ⟨w_1206, w_1207, w_1208, w_1075, w_544, cd_yX12_laysWitnesses⟩
theorem cd_yX12_laysWitnesses_ : Cd yX12_laysWitnesses_ 0 := ⟨by decide +kernel, by decide +kernel, by decide +kernel⟩
theorem cV_X12_332 : CV RX12 332 yX12_laysWitnesses_ cX12_laysWitnesses_ 2 none 0 := ⟨w_1209, w_1210, w_1211, w_1075, w_545, cd_yX12_laysWitnesses_⟩
theorem cd_yX12_lowest : Cd yX12_lowest 1 := ⟨by decide +kernel, by decide +kernel, by decide +kernel⟩
theorem cS_X12_334 : CS RX12 334 yX12_lowest cX12_lowest 3 (some .int) 1 := ⟨w_1212, w_1213, w_1075, w_548, cd_yX12_lowest⟩
theorem cd_yX12_groups : Cd yX12_groups 1 := ⟨by decide +kernel, by decide +kernel, by decide +kernel⟩
theorem cV_X12_340 : CV RX12 340 yX12_groups cX12_groups 9 (some .int) 1 := ⟨w_1214, w_1215, w_1216, w_1075, w_549, cd_yX12_groups⟩
theorem cd_yX12_hides : Cd yX12_hides 2 := ⟨by decide +kernel, by decide +kernel, by decide +kernel⟩
theorem cV_X12_343 : CV RX12 343 yX12_hides cX12_hides 7 none 2 := ⟨w_1217, w_1218, w_1219, w_1075, w_550, cd_yX12_hides⟩
theorem cd_yX12_guard : Cd yX12_guard 2 := ⟨by decide +kernel, by decide +kernel, by decide +kernel⟩
theorem cV_X12_347 : CV RX12 347 yX12_guard cX12_guard 3 (some .int) 2 := ⟨w_1220, w_1221, w_1222, w_1075, w_552, cd_yX12_guard⟩
theorem cd_yX12_watchOf : Cd yX12_watchOf 3 := ⟨by decide +kernel, by decide +kernel, by decide +kernel⟩
theorem cV_X12_349 : CV RX12 349 yX12_watchOf cX12_watchOf 8 (some .long) 3 := ⟨w_1223, w_1224, w_1225, w_1075, w_553, cd_yX12_watchOf⟩
theorem cd_yX12_watchOf_ : Cd yX12_watchOf_ 1 := ⟨by decide +kernel, by decide +kernel, by decide +kernel⟩
theorem cV_X12_353 : CV RX12 353 yX12_watchOf_ cX12_watchOf_ 2 (some .long) 1 := ⟨w_1226, w_1227, w_1228, w_1075, w_554, cd_yX12_watchOf_⟩
theorem cd_yX12_noGuard : Cd yX12_noGuard 1 := ⟨by decide +kernel, by decide +kernel, by decide +kernel⟩
theorem cV_X12_356 : CV RX12 356 yX12_noGuard cX12_noGuard 2 (some .boolean) 1 := ⟨w_1229, w_1230, w_1231, w_1075, w_505, cd_yX12_noGuard⟩
theorem cd_yX12_watchBut : Cd yX12_watchBut 1 := ⟨by decide +kernel, by decide +kernel, by decide +kernel⟩
theorem cV_X12_359 : CV RX12 359 yX12_watchBut cX12_watchBut 5 (some .long) 1 := ⟨w_1232, w_1233, w_1234, w_1075, w_555, cd_yX12_watchBut⟩
theorem cd_yX12_bestFor : Cd yX12_bestFor 1 := ⟨by decide +kernel, by decide +kernel, by decide +kernel⟩
theorem cV_X12_362 : CV RX12 362 yX12_bestFor cX12_bestFor 5 (some .int) 1 := ⟨w_1235, w_1236, w_1237, w_1075, w_562, cd_yX12_bestFor⟩
theorem cd_yX12_treasure : Cd yX12_treasure 2 := ⟨by decide +kernel, by decide +kernel, by decide +kernel⟩
theorem cV_X12_365 : CV RX12 365 yX12_treasure cX12_treasure 3 (some .int) 2 := ⟨w_1238, w_1239, w_1240, w_1075, w_565, cd_yX12_treasure⟩
theorem cd_yX12_worthOf : Cd yX12_worthOf 1 := ⟨by decide +kernel, by decide +kernel, by decide +kernel⟩
theorem cV_X12_367 : CV RX12 367 yX12_worthOf cX12_worthOf 5 (some .int) 1 := ⟨w_1241, w_1242, w_1243, w_1075, w_567, cd_yX12_worthOf⟩
theorem cd_yX12_isGuardAt : Cd yX12_isGuardAt 2 := ⟨by decide +kernel, by decide +kernel, by decide +kernel⟩
theorem cV_X12_373 : CV RX12 373 yX12_isGuardAt cX12_isGuardAt 4 (some .boolean) 2 := ⟨w_1244, w_1245, w_1246, w_1075, w_570, cd_yX12_isGuardAt⟩
theorem cd_yX12_isTreasureAt : Cd yX12_isTreasureAt 2 := ⟨by decide +kernel, by decide +kernel, by decide +kernel⟩
theorem cV_X12_376 : CV RX12 376 yX12_isTreasureAt cX12_isTreasureAt 4 (some .boolean) 2 := ⟨w_1247, w_1248, w_1249, w_1075, w_571, cd_yX12_isTreasureAt⟩
theorem cd_yX12_isVertexAt : Cd yX12_isVertexAt 2 := ⟨by decide +kernel, by decide +kernel, by decide +kernel⟩
theorem cV_X12_379 : CV RX12 379 yX12_isVertexAt cX12_isVertexAt 4 (some .boolean) 2 := ⟨w_1250, w_1251, w_1252, w_1075, w_572, cd_yX12_isVertexAt⟩
theorem cd_yX12_lays : Cd yX12_lays 1 := ⟨by decide +kernel, by decide +kernel, by decide +kernel⟩
theorem cV_X12_382 : CV RX12 382 yX12_lays cX12_lays 3 none 1 := ⟨w_1253, w_1254, w_1255, w_1075, w_575, cd_yX12_lays⟩
theorem cd_yX12_keeps : Cd yX12_keeps 0 := ⟨by decide +kernel, by decide +kernel, by decide +kernel⟩
theorem cV_X12_385 : CV RX12 385 yX12_keeps cX12_keeps 2 none 0 := ⟨w_1256, w_1257, w_1258, w_1075, w_577, cd_yX12_keeps⟩
theorem cd_yX12_isOff : Cd yX12_isOff 2 := ⟨by decide +kernel, by decide +kernel, by decide +kernel⟩
theorem cV_X12_388 : CV RX12 388 yX12_isOff cX12_isOff 3 (some .boolean) 2 := ⟨w_1259, w_1260, w_1261, w_1075, w_584, cd_yX12_isOff⟩
theorem cd_yX12_laysAside : Cd yX12_laysAside 0 := ⟨by decide +kernel, by decide +kernel, by decide +kernel⟩
theorem cV_X12_391 : CV RX12 391 yX12_laysAside cX12_laysAside 2 none 0 := ⟨w_1262, w_1263, w_1264, w_1075, w_583, cd_yX12_laysAside⟩
theorem cd_yX12_becomes : Cd yX12_becomes 0 := ⟨by decide +kernel, by decide +kernel, by decide +kernel⟩
theorem cV_X12_394 : CV RX12 394 yX12_becomes cX12_becomes 3 (some .int) 0 := ⟨w_1265, w_1266, w_1267, w_1075, w_582, cd_yX12_becomes⟩
theorem cd_yX12_fetches : Cd yX12_fetches 1 := ⟨by decide +kernel, by decide +kernel, by decide +kernel⟩
theorem cV_X12_397 : CV RX12 397 yX12_fetches cX12_fetches 3 none 1 := ⟨w_1268, w_1269, w_1270, w_1075, w_576, cd_yX12_fetches⟩
theorem cd_yX11_load : Cd yX11_load 1 := ⟨by decide +kernel, by decide +kernel, by decide +kernel⟩
theorem cV_L_7 : CV RL 7 yX11_load cX11_load 2 (some .int) 1 := ⟨w_1271, w_1272, w_1273, w_678, w_394, cd_yX11_load⟩
theorem cd_yX11_vertexX : Cd yX11_vertexX 1 := ⟨by decide +kernel, by decide +kernel, by decide +kernel⟩
theorem cV_L_17 : CV RL 17 yX11_vertexX cX11_vertexX 2 (some .int) 1 := ⟨w_1274, w_1275, w_1276, w_678, w_399, cd_yX11_vertexX⟩
theorem cd_yX11_vertexY : Cd yX11_vertexY 1 := ⟨by decide +kernel, by decide +kernel, by decide +kernel⟩
theorem cV_L_22 : CV RL 22 yX11_vertexY cX11_vertexY 2 (some .int) 1 := ⟨w_1277, w_1278, w_1279, w_678, w_400, cd_yX11_vertexY⟩
theorem cd_yX11_doubleArea : Cd yX11_doubleArea 0 := ⟨by decide +kernel, by decide +kernel, by decide +kernel⟩
theorem cV_L_25 : CV RL 25 yX11_doubleArea cX11_doubleArea 1 (some .int) 0 := ⟨w_1280, w_1281, w_1282, w_678, w_401, cd_yX11_doubleArea⟩
theorem cd_yX11_reflexVertices : Cd yX11_reflexVertices 0 := ⟨by decide +kernel, by decide +kernel, by decide +kernel⟩
theorem cV_L_29 : CV RL 29 yX11_reflexVertices cX11_reflexVertices 1 (some .int) 0 := ⟨w_1283, w_1284, w_1285, w_678, w_402, cd_yX11_reflexVertices⟩
theorem cd_yX11_pointX : Cd yX11_pointX 1 := ⟨by decide +kernel, by decide +kernel, by decide +kernel⟩
theorem cV_L_32 : CV RL 32 yX11_pointX cX11_pointX 2 (some .int) 1 := ⟨w_1286, w_1287, w_1288, w_678, w_404, cd_yX11_pointX⟩
theorem cd_yX11_pointY : Cd yX11_pointY 1 := ⟨by decide +kernel, by decide +kernel, by decide +kernel⟩
theorem cV_L_35 : CV RL 35 yX11_pointY cX11_pointY 2 (some .int) 1 := ⟨w_1289, w_1290, w_1291, w_678, w_405, cd_yX11_pointY⟩
theorem cd_yX11_pointAt : Cd yX11_pointAt 2 := ⟨by decide +kernel, by decide +kernel, by decide +kernel⟩
theorem cV_L_38 : CV RL 38 yX11_pointAt cX11_pointAt 3 (some .int) 2 := ⟨w_1292, w_1293, w_1294, w_678, w_406, cd_yX11_pointAt⟩
theorem cd_yX11_boundary : Cd yX11_boundary 0 := ⟨by decide +kernel, by decide +kernel, by decide +kernel⟩
theorem cV_L_42 : CV RL 42 yX11_boundary cX11_boundary 1 (some .long) 0 := ⟨w_1295, w_1296, w_1297, w_678, w_407, cd_yX11_boundary⟩
theorem cd_yX11_sees : Cd yX11_sees 2 := ⟨by decide +kernel, by decide +kernel, by decide +kernel⟩
theorem cV_L_46 : CV RL 46 yX11_sees cX11_sees 3 (some .boolean) 2 := ⟨w_1298, w_1299, w_1300, w_678, w_408, cd_yX11_sees⟩
theorem cd_yX11_visible : Cd yX11_visible 1 := ⟨by decide +kernel, by decide +kernel, by decide +kernel⟩
theorem cV_L_50 : CV RL 50 yX11_visible cX11_visible 2 (some .long) 1 := ⟨w_1301, w_1302, w_1303, w_678, w_409, cd_yX11_visible⟩
theorem cd_yX11_kernel : Cd yX11_kernel 0 := ⟨by decide +kernel, by decide +kernel, by decide +kernel⟩
theorem cV_L_54 : CV RL 54 yX11_kernel cX11_kernel 1 (some .long) 0 := ⟨w_1304, w_1305, w_1306, w_678, w_410, cd_yX11_kernel⟩
theorem cd_yX11_linkDistance : Cd yX11_linkDistance 2 := ⟨by decide +kernel, by decide +kernel, by decide +kernel⟩
theorem cV_L_57 : CV RL 57 yX11_linkDistance cX11_linkDistance 3 (some .int) 2 := ⟨w_1307, w_1308, w_1309, w_678, w_411, cd_yX11_linkDistance⟩
theorem cd_yX11_diameter : Cd yX11_diameter 0 := ⟨by decide +kernel, by decide +kernel, by decide +kernel⟩
theorem cV_L_60 : CV RL 60 yX11_diameter cX11_diameter 1 (some .int) 0 := ⟨w_1310, w_1311, w_1312, w_678, w_412, cd_yX11_diameter⟩
theorem cd_yX11_farthest : Cd yX11_farthest 1 := ⟨by decide +kernel, by decide +kernel, by decide +kernel⟩
theorem cV_L_63 : CV RL 63 yX11_farthest cX11_farthest 2 (some .int) 1 := ⟨w_1313, w_1314, w_1315, w_678, w_413, cd_yX11_farthest⟩
theorem cd_yX11_seenFromEdge : Cd yX11_seenFromEdge 1 := ⟨by decide +kernel, by decide +kernel, by decide +kernel⟩
theorem cV_L_66 : CV RL 66 yX11_seenFromEdge cX11_seenFromEdge 2 (some .long) 1 := ⟨w_1316, w_1317, w_1318, w_678, w_414, cd_yX11_seenFromEdge⟩
theorem cd_yX11_triangleVertex : Cd yX11_triangleVertex 2 := ⟨by decide +kernel, by decide +kernel, by decide +kernel⟩
theorem cV_L_69 : CV RL 69 yX11_triangleVertex cX11_triangleVertex 3 (some .int) 2 := ⟨w_1319, w_1320, w_1321, w_678, w_415, cd_yX11_triangleVertex⟩
theorem cd_yX11_triangleArea : Cd yX11_triangleArea 1 := ⟨by decide +kernel, by decide +kernel, by decide +kernel⟩
theorem cV_L_72 : CV RL 72 yX11_triangleArea cX11_triangleArea 2 (some .int) 1 := ⟨w_1322, w_1323, w_1324, w_678, w_416, cd_yX11_triangleArea⟩
theorem cd_yX11_colour : Cd yX11_colour 1 := ⟨by decide +kernel, by decide +kernel, by decide +kernel⟩
theorem cV_L_75 : CV RL 75 yX11_colour cX11_colour 2 (some .int) 1 := ⟨w_1325, w_1326, w_1327, w_678, w_417, cd_yX11_colour⟩
theorem cd_yX11_colourGuards : Cd yX11_colourGuards 0 := ⟨by decide +kernel, by decide +kernel, by decide +kernel⟩
theorem cV_L_78 : CV RL 78 yX11_colourGuards cX11_colourGuards 1 (some .int) 0 := ⟨w_1328, w_1329, w_1330, w_678, w_418, cd_yX11_colourGuards⟩
theorem cd_yX11_vertexGuards : Cd yX11_vertexGuards 0 := ⟨by decide +kernel, by decide +kernel, by decide +kernel⟩
theorem cV_L_81 : CV RL 81 yX11_vertexGuards cX11_vertexGuards 1 (some .int) 0 := ⟨w_1331, w_1332, w_1333, w_678, w_419, cd_yX11_vertexGuards⟩
theorem cd_yX11_edgeGuards : Cd yX11_edgeGuards 0 := ⟨by decide +kernel, by decide +kernel, by decide +kernel⟩
theorem cV_L_84 : CV RL 84 yX11_edgeGuards cX11_edgeGuards 1 (some .int) 0 := ⟨w_1334, w_1335, w_1336, w_678, w_420, cd_yX11_edgeGuards⟩
theorem cd_yX11_guardNumber : Cd yX11_guardNumber 0 := ⟨by decide +kernel, by decide +kernel, by decide +kernel⟩
theorem cV_L_87 : CV RL 87 yX11_guardNumber cX11_guardNumber 1 (some .int) 0 := ⟨w_1337, w_1338, w_1339, w_678, w_421, cd_yX11_guardNumber⟩
theorem cd_yX11_guardPoint : Cd yX11_guardPoint 1 := ⟨by decide +kernel, by decide +kernel, by decide +kernel⟩
theorem cV_L_90 : CV RL 90 yX11_guardPoint cX11_guardPoint 2 (some .int) 1 := ⟨w_1340, w_1341, w_1342, w_678, w_422, cd_yX11_guardPoint⟩
theorem cd_yX11_witnessNumber : Cd yX11_witnessNumber 0 := ⟨by decide +kernel, by decide +kernel, by decide +kernel⟩
theorem cV_L_93 : CV RL 93 yX11_witnessNumber cX11_witnessNumber 1 (some .int) 0 := ⟨w_1343, w_1344, w_1345, w_678, w_423, cd_yX11_witnessNumber⟩
theorem cd_yX11_witness : Cd yX11_witness 1 := ⟨by decide +kernel, by decide +kernel, by decide +kernel⟩
theorem cV_L_96 : CV RL 96 yX11_witness cX11_witness 2 (some .int) 1 := ⟨w_1346, w_1347, w_1348, w_678, w_424, cd_yX11_witness⟩
theorem cd_yX11_hiddenNumber : Cd yX11_hiddenNumber 0 := ⟨by decide +kernel, by decide +kernel, by decide +kernel⟩
theorem cV_L_99 : CV RL 99 yX11_hiddenNumber cX11_hiddenNumber 1 (some .int) 0 := ⟨w_1349, w_1350, w_1351, w_678, w_425, cd_yX11_hiddenNumber⟩
theorem cd_yX11_guardAt : Cd yX11_guardAt 1 := ⟨by decide +kernel, by decide +kernel, by decide +kernel⟩
theorem cV_L_102 : CV RL 102 yX11_guardAt cX11_guardAt 2 (some .int) 1 := ⟨w_1352, w_1353, w_1354, w_678, w_427, cd_yX11_guardAt⟩
theorem cd_yX11_guardRange : Cd yX11_guardRange 1 := ⟨by decide +kernel, by decide +kernel, by decide +kernel⟩
theorem cV_L_105 : CV RL 105 yX11_guardRange cX11_guardRange 2 (some .int) 1 := ⟨w_1355, w_1356, w_1357, w_678, w_428, cd_yX11_guardRange⟩
theorem cd_yX11_watched : Cd yX11_watched 1 := ⟨by decide +kernel, by decide +kernel, by decide +kernel⟩
theorem cV_L_108 : CV RL 108 yX11_watched cX11_watched 2 (some .long) 1 := ⟨w_1358, w_1359, w_1360, w_678, w_429, cd_yX11_watched⟩
theorem cd_yX11_unwatched : Cd yX11_unwatched 0 := ⟨by decide +kernel, by decide +kernel, by decide +kernel⟩
theorem cV_L_111 : CV RL 111 yX11_unwatched cX11_unwatched 1 (some .long) 0 := ⟨w_1361, w_1362, w_1363, w_678, w_430, cd_yX11_unwatched⟩
theorem cd_yX11_watchers : Cd yX11_watchers 1 := ⟨by decide +kernel, by decide +kernel, by decide +kernel⟩
theorem cV_L_114 : CV RL 114 yX11_watchers cX11_watchers 2 (some .int) 1 := ⟨w_1364, w_1365, w_1366, w_678, w_431, cd_yX11_watchers⟩
theorem cd_yX11_redundantGuards : Cd yX11_redundantGuards 0 := ⟨by decide +kernel, by decide +kernel, by decide +kernel⟩
theorem cV_L_117 : CV RL 117 yX11_redundantGuards cX11_redundantGuards 1 (some .int) 0 := ⟨w_1367, w_1368, w_1369, w_678, w_432, cd_yX11_redundantGuards⟩
theorem cd_yX11_bestPoint : Cd yX11_bestPoint 0 := ⟨by decide +kernel, by decide +kernel, by decide +kernel⟩
theorem cV_L_120 : CV RL 120 yX11_bestPoint cX11_bestPoint 1 (some .int) 0 := ⟨w_1370, w_1371, w_1372, w_678, w_433, cd_yX11_bestPoint⟩
theorem cd_yX11_greedyGuards : Cd yX11_greedyGuards 0 := ⟨by decide +kernel, by decide +kernel, by decide +kernel⟩
theorem cV_L_123 : CV RL 123 yX11_greedyGuards cX11_greedyGuards 1 (some .int) 0 := ⟨w_1373, w_1374, w_1375, w_678, w_434, cd_yX11_greedyGuards⟩
theorem cd_yX11_treasureAt : Cd yX11_treasureAt 1 := ⟨by decide +kernel, by decide +kernel, by decide +kernel⟩
theorem cV_L_126 : CV RL 126 yX11_treasureAt cX11_treasureAt 2 (some .int) 1 := ⟨w_1376, w_1377, w_1378, w_678, w_436, cd_yX11_treasureAt⟩
theorem cd_yX11_watchedValue : Cd yX11_watchedValue 0 := ⟨by decide +kernel, by decide +kernel, by decide +kernel⟩
theorem cV_L_129 : CV RL 129 yX11_watchedValue cX11_watchedValue 1 (some .int) 0 := ⟨w_1379, w_1380, w_1381, w_678, w_437, cd_yX11_watchedValue⟩
theorem cd_yX11_bestValue : Cd yX11_bestValue 0 := ⟨by decide +kernel, by decide +kernel, by decide +kernel⟩
theorem cV_L_132 : CV RL 132 yX11_bestValue cX11_bestValue 1 (some .int) 0 := ⟨w_1382, w_1383, w_1384, w_678, w_438, cd_yX11_bestValue⟩
theorem cd_yX11_draw : Cd yX11_draw 1 := ⟨by decide +kernel, by decide +kernel, by decide +kernel⟩
theorem cV_L_135 : CV RL 135 yX11_draw cX11_draw 6 (some .int) 1 := ⟨w_1385, w_1386, w_1387, w_678, w_439, cd_yX11_draw⟩
theorem cd_yX11_drawnByte : Cd yX11_drawnByte 1 := ⟨by decide +kernel, by decide +kernel, by decide +kernel⟩
theorem cV_L_138 : CV RL 138 yX11_drawnByte cX11_drawnByte 2 (some .int) 1 := ⟨w_1388, w_1389, w_1390, w_678, w_440, cd_yX11_drawnByte⟩
theorem cd_yX11_addGuard : Cd yX11_addGuard 2 := ⟨by decide +kernel, by decide +kernel, by decide +kernel⟩
theorem cV_L_141 : CV RL 141 yX11_addGuard cX11_addGuard 3 (some .int) 2 := ⟨w_1391, w_1392, w_1393, w_678, w_441, cd_yX11_addGuard⟩
theorem cd_yX11_removeGuard : Cd yX11_removeGuard 1 := ⟨by decide +kernel, by decide +kernel, by decide +kernel⟩
theorem cV_L_144 : CV RL 144 yX11_removeGuard cX11_removeGuard 2 (some .int) 1 := ⟨w_1394, w_1395, w_1396, w_678, w_442, cd_yX11_removeGuard⟩
theorem cd_yX11_moveGuard : Cd yX11_moveGuard 2 := ⟨by decide +kernel, by decide +kernel, by decide +kernel⟩
theorem cV_L_147 : CV RL 147 yX11_moveGuard cX11_moveGuard 4 (some .int) 2 := ⟨w_1397, w_1398, w_1399, w_678, w_443, cd_yX11_moveGuard⟩
theorem cd_yX11_setRange : Cd yX11_setRange 2 := ⟨by decide +kernel, by decide +kernel, by decide +kernel⟩
theorem cV_L_150 : CV RL 150 yX11_setRange cX11_setRange 4 (some .int) 2 := ⟨w_1400, w_1401, w_1402, w_678, w_444, cd_yX11_setRange⟩
theorem cd_yX11_moveVertex : Cd yX11_moveVertex 3 := ⟨by decide +kernel, by decide +kernel, by decide +kernel⟩
theorem cV_L_153 : CV RL 153 yX11_moveVertex cX11_moveVertex 4 (some .int) 3 := ⟨w_1403, w_1404, w_1405, w_678, w_445, cd_yX11_moveVertex⟩
theorem cd_yX11_insertVertex : Cd yX11_insertVertex 3 := ⟨by decide +kernel, by decide +kernel, by decide +kernel⟩
theorem cV_L_157 : CV RL 157 yX11_insertVertex cX11_insertVertex 4 (some .int) 3 := ⟨w_1406, w_1407, w_1408, w_678, w_446, cd_yX11_insertVertex⟩
theorem cd_yX11_deleteVertex : Cd yX11_deleteVertex 1 := ⟨by decide +kernel, by decide +kernel, by decide +kernel⟩
theorem cV_L_160 : CV RL 160 yX11_deleteVertex cX11_deleteVertex 2 (some .int) 1 := ⟨w_1409, w_1410, w_1411, w_678, w_447, cd_yX11_deleteVertex⟩
theorem cd_yX11_undo : Cd yX11_undo 0 := ⟨by decide +kernel, by decide +kernel, by decide +kernel⟩
theorem cV_L_163 : CV RL 163 yX11_undo cX11_undo 1 (some .int) 0 := ⟨w_1412, w_1413, w_1414, w_678, w_448, cd_yX11_undo⟩
theorem cd_yX11_save : Cd yX11_save 1 := ⟨by decide +kernel, by decide +kernel, by decide +kernel⟩
theorem cV_L_166 : CV RL 166 yX11_save cX11_save 2 (some .int) 1 := ⟨w_1415, w_1416, w_1417, w_678, w_450, cd_yX11_save⟩
theorem cd_yX11_restore : Cd yX11_restore 1 := ⟨by decide +kernel, by decide +kernel, by decide +kernel⟩
theorem cV_L_169 : CV RL 169 yX11_restore cX11_restore 2 (some .int) 1 := ⟨w_1418, w_1419, w_1420, w_678, w_451, cd_yX11_restore⟩
theorem cd_yJ6_numberOfTrailingZeros_0f7a4 : Cd yJ6_numberOfTrailingZeros_0f7a4 1 := ⟨by decide +kernel, by decide +kernel, by decide +kernel⟩
theorem cS_J13_311 : CS RJ13 311 yJ6_numberOfTrailingZeros_0f7a4 cJ6_numberOfTrailingZeros_0f7a4 2 (some .int) 1 := ⟨w_1421, w_1422, w_670, w_641, cd_yJ6_numberOfTrailingZeros_0f7a4⟩
theorem at_X11_127 : ∀ w ∈ vx_atS RX11 127 "java/lang/IndexOutOfBoundsException" ["java/lang/RuntimeException", "java/lang/Exception"], w ∈ Big ∨ w ∈ odd := by decide +kernel
theorem tf_X11_123_125 : Tf RX11 123 125 127 "java/lang/IndexOutOfBoundsException" "not so many bytes in the buffe\x72" ["java/lang/RuntimeException", "java/lang/Exception"] := ⟨by decide +kernel, by decide +kernel, w_1423, w_1424, by decide +kernel, at_X11_127⟩
theorem at_X11_141 : ∀ w ∈ vx_atS RX11 141 "java/lang/IllegalArgumentException" ["java/lang/RuntimeException", "java/lang/Exception"], w ∈ Big ∨ w ∈ odd := by decide +kernel
theorem tf_X11_137_139 : Tf RX11 137 139 141 "java/lang/IllegalArgumentException" "the text has an erro\x72" ["java/lang/RuntimeException", "java/lang/Exception"] := ⟨by decide +kernel, by decide +kernel, w_1425, w_1426, by decide +kernel, at_X11_141⟩
theorem at_X11_315 : ∀ w ∈ vx_atS RX11 315 "java/lang/IllegalStateException" ["java/lang/RuntimeException", "java/lang/Exception"], w ∈ Big ∨ w ∈ odd := by decide +kernel
theorem tf_X11_311_313 : Tf RX11 311 313 315 "java/lang/IllegalStateException" "there are 6 guards" ["java/lang/RuntimeException", "java/lang/Exception"] := ⟨by decide +kernel, by decide +kernel, w_1427, w_1428, by decide +kernel, at_X11_315⟩
theorem tf_X11_137_340 : Tf RX11 137 340 141 "java/lang/IllegalArgumentException" "there are 12 vertices" ["java/lang/RuntimeException", "java/lang/Exception"] := ⟨by decide +kernel, by decide +kernel, w_1425, w_1426, by decide +kernel, at_X11_141⟩
theorem tf_X11_311_349 : Tf RX11 311 349 315 "java/lang/IllegalStateException" "no change can be undone" ["java/lang/RuntimeException", "java/lang/Exception"] := ⟨by decide +kernel, by decide +kernel, w_1427, w_1428, by decide +kernel, at_X11_315⟩
theorem tf_X11_311_358 : Tf RX11 311 358 315 "java/lang/IllegalStateException" "nothing is saved there" ["java/lang/RuntimeException", "java/lang/Exception"] := ⟨by decide +kernel, by decide +kernel, w_1427, w_1428, by decide +kernel, at_X11_315⟩
theorem tf_X11_311_360 : Tf RX11 311 360 315 "java/lang/IllegalStateException" "no polygon" ["java/lang/RuntimeException", "java/lang/Exception"] := ⟨by decide +kernel, by decide +kernel, w_1427, w_1428, by decide +kernel, at_X11_315⟩
theorem tf_X11_123_362 : Tf RX11 123 362 127 "java/lang/IndexOutOfBoundsException" "no such index" ["java/lang/RuntimeException", "java/lang/Exception"] := ⟨by decide +kernel, by decide +kernel, w_1423, w_1424, by decide +kernel, at_X11_127⟩
theorem tf_X11_137_364 : Tf RX11 137 364 141 "java/lang/IllegalArgumentException" "argument out of range" ["java/lang/RuntimeException", "java/lang/Exception"] := ⟨by decide +kernel, by decide +kernel, w_1425, w_1426, by decide +kernel, at_X11_141⟩
theorem tf_X11_137_376 : Tf RX11 137 376 141 "java/lang/IllegalArgumentException" "this change of the polygon is not possible" ["java/lang/RuntimeException", "java/lang/Exception"] := ⟨by decide +kernel, by decide +kernel, w_1425, w_1426, by decide +kernel, at_X11_141⟩
