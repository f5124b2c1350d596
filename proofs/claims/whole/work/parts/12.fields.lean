theorem fl_X2_9_2 : FL RX2 9 2 0 := ⟨RX2, TX2, 13, "IcicleRings$Icicle", rfl, in_X2, by decide, wd_107, Or.inl rfl⟩
theorem fp_X2_9_2 : FP RX2 9 2 0 (.array .int) true := ⟨RX2, TX2, 13, "IcicleRings$Icicle", tyX2, rfl, in_X2, by decide, wd_107, Or.inl rfl, tyX2_ok, nmX2, rfl, (fun _ => rfl), rfl⟩
theorem fl_X11_82_2 : FL RX11 82 2 0 := ⟨RX2, TX2, 13, "IcicleRings$Icicle", rfl, in_X2, by decide, wd_108, Or.inl rfl⟩
theorem fl_X2_15_2 : FL RX2 15 2 1 := ⟨RX2, TX2, 13, "IcicleRings$Icicle", rfl, in_X2, by decide, wd_109, Or.inl rfl⟩
theorem fp_X2_15_2 : FP RX2 15 2 1 (.array .int) true := ⟨RX2, TX2, 13, "IcicleRings$Icicle", tyX2, rfl, in_X2, by decide, wd_109, Or.inl rfl, tyX2_ok, nmX2, rfl, (fun _ => rfl), rfl⟩
theorem fl_X11_85_2 : FL RX11 85 2 1 := ⟨RX2, TX2, 13, "IcicleRings$Icicle", rfl, in_X2, by decide, wd_110, Or.inl rfl⟩
theorem fl_X2_18_2 : FL RX2 18 2 2 := ⟨RX2, TX2, 13, "IcicleRings$Icicle", rfl, in_X2, by decide, wd_111, Or.inl rfl⟩
theorem fp_X2_18_2 : FP RX2 18 2 2 (.array .int) true := ⟨RX2, TX2, 13, "IcicleRings$Icicle", tyX2, rfl, in_X2, by decide, wd_111, Or.inl rfl, tyX2_ok, nmX2, rfl, (fun _ => rfl), rfl⟩
theorem fl_X11_114_2 : FL RX11 114 2 2 := ⟨RX2, TX2, 13, "IcicleRings$Icicle", rfl, in_X2, by decide, wd_112, Or.inl rfl⟩
theorem fl_X2_23_2 : FL RX2 23 2 3 := ⟨RX2, TX2, 13, "IcicleRings$Icicle", rfl, in_X2, by decide, wd_113, Or.inl rfl⟩
theorem fp_X2_23_2 : FP RX2 23 2 3 (.array (.object "IcicleRings$Cause")) true := ⟨RX2, TX2, 13, "IcicleRings$Icicle", tyX2, rfl, in_X2, by decide, wd_113, Or.inl rfl, tyX2_ok, nmX2, rfl, (fun _ => rfl), rfl⟩
theorem fl_X11_120_2 : FL RX11 120 2 3 := ⟨RX2, TX2, 13, "IcicleRings$Icicle", rfl, in_X2, by decide, wd_114, Or.inl rfl⟩
theorem fl_X2_29_2 : FL RX2 29 2 4 := ⟨RX2, TX2, 13, "IcicleRings$Icicle", rfl, in_X2, by decide, wd_115, Or.inl rfl⟩
theorem fp_X2_29_2 : FP RX2 29 2 4 (.array (.object "IcicleRings$Text")) true := ⟨RX2, TX2, 13, "IcicleRings$Icicle", tyX2, rfl, in_X2, by decide, wd_115, Or.inl rfl, tyX2_ok, nmX2, rfl, (fun _ => rfl), rfl⟩
theorem fl_X11_174_2 : FL RX11 174 2 4 := ⟨RX2, TX2, 13, "IcicleRings$Icicle", rfl, in_X2, by decide, wd_116, Or.inl rfl⟩
theorem fl_X1_7_2 : FL RX1 7 2 5 := ⟨RX2, TX2, 13, "IcicleRings$Icicle", rfl, in_X2, by decide, wd_117, Or.inl rfl⟩
theorem fl_X10_7_2 : FL RX10 7 2 5 := ⟨RX2, TX2, 13, "IcicleRings$Icicle", rfl, in_X2, by decide, wd_118, Or.inl rfl⟩
theorem fl_X2_45_2 : FL RX2 45 2 5 := ⟨RX2, TX2, 13, "IcicleRings$Icicle", rfl, in_X2, by decide, wd_119, Or.inl rfl⟩
theorem fp_X2_45_2 : FP RX2 45 2 5 .int false := ⟨RX2, TX2, 13, "IcicleRings$Icicle", tyX2, rfl, in_X2, by decide, wd_119, Or.inl rfl, tyX2_ok, nmX2, rfl, (fun q => by cases q), rfl⟩
theorem fl_X11_98_2 : FL RX11 98 2 5 := ⟨RX2, TX2, 13, "IcicleRings$Icicle", rfl, in_X2, by decide, wd_120, Or.inl rfl⟩
theorem fl_X1_13_2 : FL RX1 13 2 6 := ⟨RX2, TX2, 13, "IcicleRings$Icicle", rfl, in_X2, by decide, wd_121, Or.inl rfl⟩
theorem fl_X2_49_2 : FL RX2 49 2 6 := ⟨RX2, TX2, 13, "IcicleRings$Icicle", rfl, in_X2, by decide, wd_122, Or.inl rfl⟩
theorem fp_X2_49_2 : FP RX2 49 2 6 .int false := ⟨RX2, TX2, 13, "IcicleRings$Icicle", tyX2, rfl, in_X2, by decide, wd_122, Or.inl rfl, tyX2_ok, nmX2, rfl, (fun q => by cases q), rfl⟩
theorem fl_X11_182_2 : FL RX11 182 2 6 := ⟨RX2, TX2, 13, "IcicleRings$Icicle", rfl, in_X2, by decide, wd_123, Or.inl rfl⟩
theorem fl_X2_52_2 : FL RX2 52 2 7 := ⟨RX2, TX2, 13, "IcicleRings$Icicle", rfl, in_X2, by decide, wd_124, Or.inl rfl⟩
theorem fp_X2_52_2 : FP RX2 52 2 7 .int false := ⟨RX2, TX2, 13, "IcicleRings$Icicle", tyX2, rfl, in_X2, by decide, wd_124, Or.inl rfl, tyX2_ok, nmX2, rfl, (fun q => by cases q), rfl⟩
theorem fl_X11_207_2 : FL RX11 207 2 7 := ⟨RX2, TX2, 13, "IcicleRings$Icicle", rfl, in_X2, by decide, wd_125, Or.inl rfl⟩
theorem fl_X2_55_2 : FL RX2 55 2 8 := ⟨RX2, TX2, 13, "IcicleRings$Icicle", rfl, in_X2, by decide, wd_126, Or.inl rfl⟩
theorem fp_X2_55_2 : FP RX2 55 2 8 .int false := ⟨RX2, TX2, 13, "IcicleRings$Icicle", tyX2, rfl, in_X2, by decide, wd_126, Or.inl rfl, tyX2_ok, nmX2, rfl, (fun q => by cases q), rfl⟩
theorem fl_X11_210_2 : FL RX11 210 2 8 := ⟨RX2, TX2, 13, "IcicleRings$Icicle", rfl, in_X2, by decide, wd_127, Or.inl rfl⟩
theorem fl_X2_58_2 : FL RX2 58 2 9 := ⟨RX2, TX2, 13, "IcicleRings$Icicle", rfl, in_X2, by decide, wd_128, Or.inl rfl⟩
theorem fp_X2_58_2 : FP RX2 58 2 9 .int false := ⟨RX2, TX2, 13, "IcicleRings$Icicle", tyX2, rfl, in_X2, by decide, wd_128, Or.inl rfl, tyX2_ok, nmX2, rfl, (fun q => by cases q), rfl⟩
theorem fl_X11_117_2 : FL RX11 117 2 9 := ⟨RX2, TX2, 13, "IcicleRings$Icicle", rfl, in_X2, by decide, wd_129, Or.inl rfl⟩
theorem fp_X11_117_2 : FP RX11 117 2 9 .int false := ⟨RX2, TX2, 13, "IcicleRings$Icicle", tyX2, rfl, in_X2, by decide, wd_129, Or.inl rfl, tyX2_ok, nmX2, rfl, (fun q => by cases q), rfl⟩
theorem fl_X2_61_2 : FL RX2 61 2 10 := ⟨RX2, TX2, 13, "IcicleRings$Icicle", rfl, in_X2, by decide, wd_130, Or.inl rfl⟩
theorem fp_X2_61_2 : FP RX2 61 2 10 .int false := ⟨RX2, TX2, 13, "IcicleRings$Icicle", tyX2, rfl, in_X2, by decide, wd_130, Or.inl rfl, tyX2_ok, nmX2, rfl, (fun q => by cases q), rfl⟩
theorem fl_X11_128_2 : FL RX11 128 2 10 := ⟨RX2, TX2, 13, "IcicleRings$Icicle", rfl, in_X2, by decide, wd_131, Or.inl rfl⟩
theorem fp_X11_128_2 : FP RX11 128 2 10 .int false := ⟨RX2, TX2, 13, "IcicleRings$Icicle", tyX2, rfl, in_X2, by decide, wd_131, Or.inl rfl, tyX2_ok, nmX2, rfl, (fun q => by cases q), rfl⟩
theorem fl_X0_19_2 : FL RX0 19 2 11 := ⟨RX2, TX2, 13, "IcicleRings$Icicle", rfl, in_X2, by decide, wd_132, Or.inl rfl⟩
theorem fl_X8_13_2 : FL RX8 13 2 11 := ⟨RX2, TX2, 13, "IcicleRings$Icicle", rfl, in_X2, by decide, wd_133, Or.inl rfl⟩
theorem fp_X2_98_2 : FP RX2 98 2 11 .int false := ⟨RX2, TX2, 13, "IcicleRings$Icicle", tyX2, rfl, in_X2, by decide, wd_134, Or.inl rfl, tyX2_ok, nmX2, rfl, (fun q => by cases q), rfl⟩
theorem fl_X4_11_2 : FL RX4 11 2 12 := ⟨RX2, TX2, 13, "IcicleRings$Icicle", rfl, in_X2, by decide, wd_135, Or.inl rfl⟩
theorem fl_X8_18_2 : FL RX8 18 2 12 := ⟨RX2, TX2, 13, "IcicleRings$Icicle", rfl, in_X2, by decide, wd_136, Or.inl rfl⟩
theorem fp_X2_101_2 : FP RX2 101 2 12 .int false := ⟨RX2, TX2, 13, "IcicleRings$Icicle", tyX2, rfl, in_X2, by decide, wd_137, Or.inl rfl, tyX2_ok, nmX2, rfl, (fun q => by cases q), rfl⟩
theorem fl_X6_13_6 : FL RX6 13 6 0 := ⟨RX6, TX6, 3, "IcicleRings$Row", rfl, in_X6, by decide, wd_175, Or.inl rfl⟩
theorem fp_X6_13_6 : FP RX6 13 6 0 (.array .int) true := ⟨RX6, TX6, 3, "IcicleRings$Row", tyX6, rfl, in_X6, by decide, wd_175, Or.inl rfl, tyX6_ok, nmX6, rfl, (fun _ => rfl), rfl⟩
theorem fl_X11_291_6 : FL RX11 291 6 0 := ⟨RX6, TX6, 3, "IcicleRings$Row", rfl, in_X6, by decide, wd_176, Or.inl rfl⟩
theorem fl_X6_19_6 : FL RX6 19 6 1 := ⟨RX6, TX6, 3, "IcicleRings$Row", rfl, in_X6, by decide, wd_177, Or.inl rfl⟩
theorem fp_X6_19_6 : FP RX6 19 6 1 .int false := ⟨RX6, TX6, 3, "IcicleRings$Row", tyX6, rfl, in_X6, by decide, wd_177, Or.inl rfl, tyX6_ok, nmX6, rfl, (fun q => by cases q), rfl⟩
theorem fl_X3_37_6 : FL RX3 37 6 1 := ⟨RX6, TX6, 3, "IcicleRings$Row", rfl, in_X6, by decide, wd_178, Or.inl rfl⟩
theorem fl_X9_32_6 : FL RX9 32 6 1 := ⟨RX6, TX6, 3, "IcicleRings$Row", rfl, in_X6, by decide, wd_179, Or.inl rfl⟩
theorem fl_X11_95_6 : FL RX11 95 6 1 := ⟨RX6, TX6, 3, "IcicleRings$Row", rfl, in_X6, by decide, wd_180, Or.inl rfl⟩
theorem fl_X2_145_6 : FL RX2 145 6 1 := ⟨RX6, TX6, 3, "IcicleRings$Row", rfl, in_X6, by decide, wd_181, Or.inl rfl⟩
theorem fl_X6_23_6 : FL RX6 23 6 2 := ⟨RX6, TX6, 3, "IcicleRings$Row", rfl, in_X6, by decide, wd_182, Or.inl rfl⟩
theorem fp_X6_23_6 : FP RX6 23 6 2 .int false := ⟨RX6, TX6, 3, "IcicleRings$Row", tyX6, rfl, in_X6, by decide, wd_182, Or.inl rfl, tyX6_ok, nmX6, rfl, (fun q => by cases q), rfl⟩
theorem fl_X11_285_6 : FL RX11 285 6 2 := ⟨RX6, TX6, 3, "IcicleRings$Row", rfl, in_X6, by decide, wd_183, Or.inl rfl⟩
theorem fl_X3_12_3 : FL RX3 12 3 0 := ⟨RX3, TX3, 5, "IcicleRings$Kept", rfl, in_X3, by decide, wd_191, Or.inl rfl⟩
theorem fp_X3_12_3 : FP RX3 12 3 0 (.object "IcicleRings$Icicle") true := ⟨RX3, TX3, 5, "IcicleRings$Kept", tyX3, rfl, in_X3, by decide, wd_191, Or.inl rfl, tyX3_ok, nmX3, rfl, (fun _ => rfl), rfl⟩
theorem fl_X11_56_3 : FL RX11 56 3 0 := ⟨RX3, TX3, 5, "IcicleRings$Kept", rfl, in_X3, by decide, wd_192, Or.inl rfl⟩
theorem fl_X3_23_3 : FL RX3 23 3 1 := ⟨RX3, TX3, 5, "IcicleRings$Kept", rfl, in_X3, by decide, wd_193, Or.inl rfl⟩
theorem fp_X3_23_3 : FP RX3 23 3 1 (.object "IcicleRings$Row") true := ⟨RX3, TX3, 5, "IcicleRings$Kept", tyX3, rfl, in_X3, by decide, wd_193, Or.inl rfl, tyX3_ok, nmX3, rfl, (fun _ => rfl), rfl⟩
theorem fl_X11_158_3 : FL RX11 158 3 1 := ⟨RX3, TX3, 5, "IcicleRings$Kept", rfl, in_X3, by decide, wd_194, Or.inl rfl⟩
theorem fl_X3_27_3 : FL RX3 27 3 2 := ⟨RX3, TX3, 5, "IcicleRings$Kept", rfl, in_X3, by decide, wd_195, Or.inl rfl⟩
theorem fp_X3_27_3 : FP RX3 27 3 2 (.object "IcicleRings$Row") true := ⟨RX3, TX3, 5, "IcicleRings$Kept", tyX3, rfl, in_X3, by decide, wd_195, Or.inl rfl, tyX3_ok, nmX3, rfl, (fun _ => rfl), rfl⟩
theorem fl_X11_303_3 : FL RX11 303 3 2 := ⟨RX3, TX3, 5, "IcicleRings$Kept", rfl, in_X3, by decide, wd_196, Or.inl rfl⟩
theorem fl_X3_30_3 : FL RX3 30 3 3 := ⟨RX3, TX3, 5, "IcicleRings$Kept", rfl, in_X3, by decide, wd_197, Or.inl rfl⟩
theorem fp_X3_30_3 : FP RX3 30 3 3 (.object "IcicleRings$Row") true := ⟨RX3, TX3, 5, "IcicleRings$Kept", tyX3, rfl, in_X3, by decide, wd_197, Or.inl rfl, tyX3_ok, nmX3, rfl, (fun _ => rfl), rfl⟩
theorem fl_X11_244_3 : FL RX11 244 3 3 := ⟨RX3, TX3, 5, "IcicleRings$Kept", rfl, in_X3, by decide, wd_198, Or.inl rfl⟩
theorem fl_X3_33_3 : FL RX3 33 3 4 := ⟨RX3, TX3, 5, "IcicleRings$Kept", rfl, in_X3, by decide, wd_199, Or.inl rfl⟩
theorem fp_X3_33_3 : FP RX3 33 3 4 .int false := ⟨RX3, TX3, 5, "IcicleRings$Kept", tyX3, rfl, in_X3, by decide, wd_199, Or.inl rfl, tyX3_ok, nmX3, rfl, (fun q => by cases q), rfl⟩
theorem fl_X11_260_3 : FL RX11 260 3 4 := ⟨RX3, TX3, 5, "IcicleRings$Kept", rfl, in_X3, by decide, wd_200, Or.inl rfl⟩
theorem fp_X11_260_3 : FP RX11 260 3 4 .int false := ⟨RX3, TX3, 5, "IcicleRings$Kept", tyX3, rfl, in_X3, by decide, wd_200, Or.inl rfl, tyX3_ok, nmX3, rfl, (fun q => by cases q), rfl⟩
theorem fl_X11_10_11 : FL RX11 10 11 0 := ⟨RX11, TX11, 10, "IcicleRings", rfl, in_X11, by decide, wd_217, Or.inl rfl⟩
theorem fp_X11_10_11 : FP RX11 10 11 0 (.object "IcicleRings$Kept") true := ⟨RX11, TX11, 10, "IcicleRings", tyX11, rfl, in_X11, by decide, wd_217, Or.inl rfl, tyX11_ok, nmX11, rfl, (fun _ => rfl), rfl⟩
theorem fl_X11_16_11 : FL RX11 16 11 1 := ⟨RX11, TX11, 10, "IcicleRings", rfl, in_X11, by decide, wd_218, Or.inl rfl⟩
theorem fp_X11_16_11 : FP RX11 16 11 1 (.object "IcicleRings$Kept") true := ⟨RX11, TX11, 10, "IcicleRings", tyX11, rfl, in_X11, by decide, wd_218, Or.inl rfl, tyX11_ok, nmX11, rfl, (fun _ => rfl), rfl⟩
theorem fl_X11_22_11 : FL RX11 22 11 2 := ⟨RX11, TX11, 10, "IcicleRings", rfl, in_X11, by decide, wd_219, Or.inl rfl⟩
theorem fp_X11_22_11 : FP RX11 22 11 2 (.object "IcicleRings$Icicle") true := ⟨RX11, TX11, 10, "IcicleRings", tyX11, rfl, in_X11, by decide, wd_219, Or.inl rfl, tyX11_ok, nmX11, rfl, (fun _ => rfl), rfl⟩
theorem fl_X11_28_11 : FL RX11 28 11 3 := ⟨RX11, TX11, 10, "IcicleRings", rfl, in_X11, by decide, wd_220, Or.inl rfl⟩
theorem fp_X11_28_11 : FP RX11 28 11 3 (.array (.object "IcicleRings$Row")) true := ⟨RX11, TX11, 10, "IcicleRings", tyX11, rfl, in_X11, by decide, wd_220, Or.inl rfl, tyX11_ok, nmX11, rfl, (fun _ => rfl), rfl⟩
theorem fl_X11_35_11 : FL RX11 35 11 4 := ⟨RX11, TX11, 10, "IcicleRings", rfl, in_X11, by decide, wd_221, Or.inl rfl⟩
theorem fp_X11_35_11 : FP RX11 35 11 4 (.array (.object "IcicleRings$Row")) true := ⟨RX11, TX11, 10, "IcicleRings", tyX11, rfl, in_X11, by decide, wd_221, Or.inl rfl, tyX11_ok, nmX11, rfl, (fun _ => rfl), rfl⟩
theorem fl_X11_38_11 : FL RX11 38 11 5 := ⟨RX11, TX11, 10, "IcicleRings", rfl, in_X11, by decide, wd_222, Or.inl rfl⟩
theorem fp_X11_38_11 : FP RX11 38 11 5 (.object "IcicleRings$Row") true := ⟨RX11, TX11, 10, "IcicleRings", tyX11, rfl, in_X11, by decide, wd_222, Or.inl rfl, tyX11_ok, nmX11, rfl, (fun _ => rfl), rfl⟩
theorem fl_X11_42_11 : FL RX11 42 11 6 := ⟨RX11, TX11, 10, "IcicleRings", rfl, in_X11, by decide, wd_223, Or.inl rfl⟩
theorem fp_X11_42_11 : FP RX11 42 11 6 (.object "IcicleRings$Row") true := ⟨RX11, TX11, 10, "IcicleRings", tyX11, rfl, in_X11, by decide, wd_223, Or.inl rfl, tyX11_ok, nmX11, rfl, (fun _ => rfl), rfl⟩
theorem fl_X11_45_11 : FL RX11 45 11 7 := ⟨RX11, TX11, 10, "IcicleRings", rfl, in_X11, by decide, wd_224, Or.inl rfl⟩
theorem fp_X11_45_11 : FP RX11 45 11 7 (.object "IcicleRings$Row") true := ⟨RX11, TX11, 10, "IcicleRings", tyX11, rfl, in_X11, by decide, wd_224, Or.inl rfl, tyX11_ok, nmX11, rfl, (fun _ => rfl), rfl⟩
theorem fl_X11_48_11 : FL RX11 48 11 8 := ⟨RX11, TX11, 10, "IcicleRings", rfl, in_X11, by decide, wd_225, Or.inl rfl⟩
theorem fp_X11_48_11 : FP RX11 48 11 8 (.array .int) true := ⟨RX11, TX11, 10, "IcicleRings", tyX11, rfl, in_X11, by decide, wd_225, Or.inl rfl, tyX11_ok, nmX11, rfl, (fun _ => rfl), rfl⟩
theorem fl_X11_52_11 : FL RX11 52 11 9 := ⟨RX11, TX11, 10, "IcicleRings", rfl, in_X11, by decide, wd_226, Or.inl rfl⟩
theorem fp_X11_52_11 : FP RX11 52 11 9 .int false := ⟨RX11, TX11, 10, "IcicleRings", tyX11, rfl, in_X11, by decide, wd_226, Or.inl rfl, tyX11_ok, nmX11, rfl, (fun q => by cases q), rfl⟩
theorem fp_X0_7_0 : FP RX0 7 0 0 .int true := ⟨RX0, TX0, 3, "IcicleRings$Cause", tyX0, rfl, in_X0, by decide, wd_330, Or.inl rfl, tyX0_ok, nmX0, rfl, (fun _ => rfl), rfl⟩
theorem fp_X0_7_10 : FP RX0 7 10 0 .int true := ⟨RX10, TX10, 3, "IcicleRings$Cause", tyX10, rfl, in_X10, by decide, wd_330, Or.inl rfl, tyX10_ok, nmX10, rfl, (fun _ => rfl), rfl⟩
theorem fp_X0_7_8 : FP RX0 7 8 0 .int true := ⟨RX8, TX8, 3, "IcicleRings$Cause", tyX8, rfl, in_X8, by decide, wd_330, Or.inl rfl, tyX8_ok, nmX8, rfl, (fun _ => rfl), rfl⟩
theorem fp_X0_7_5 : FP RX0 7 5 0 .int true := ⟨RX5, TX5, 3, "IcicleRings$Cause", tyX5, rfl, in_X5, by decide, wd_330, Or.inl rfl, tyX5_ok, nmX5, rfl, (fun _ => rfl), rfl⟩
theorem fp_X0_7_7 : FP RX0 7 7 0 .int true := ⟨RX7, TX7, 3, "IcicleRings$Cause", tyX7, rfl, in_X7, by decide, wd_330, Or.inl rfl, tyX7_ok, nmX7, rfl, (fun _ => rfl), rfl⟩
theorem fp_X0_7_4 : FP RX0 7 4 0 .int true := ⟨RX4, TX4, 3, "IcicleRings$Cause", tyX4, rfl, in_X4, by decide, wd_330, Or.inl rfl, tyX4_ok, nmX4, rfl, (fun _ => rfl), rfl⟩
theorem fp_X0_7_1 : FP RX0 7 1 0 .int true := ⟨RX1, TX1, 3, "IcicleRings$Cause", tyX1, rfl, in_X1, by decide, wd_330, Or.inl rfl, tyX1_ok, nmX1, rfl, (fun _ => rfl), rfl⟩
theorem fl_X11_135_0 : FL RX11 135 0 0 := ⟨RX0, TX0, 3, "IcicleRings$Cause", rfl, in_X0, by decide, wd_331, Or.inl rfl⟩
theorem fl_X11_135_10 : FL RX11 135 10 0 := ⟨RX10, TX10, 3, "IcicleRings$Cause", rfl, in_X10, by decide, wd_331, Or.inl rfl⟩
theorem fl_X11_135_8 : FL RX11 135 8 0 := ⟨RX8, TX8, 3, "IcicleRings$Cause", rfl, in_X8, by decide, wd_331, Or.inl rfl⟩
theorem fl_X11_135_5 : FL RX11 135 5 0 := ⟨RX5, TX5, 3, "IcicleRings$Cause", rfl, in_X5, by decide, wd_331, Or.inl rfl⟩
theorem fl_X11_135_7 : FL RX11 135 7 0 := ⟨RX7, TX7, 3, "IcicleRings$Cause", rfl, in_X7, by decide, wd_331, Or.inl rfl⟩
theorem fl_X11_135_4 : FL RX11 135 4 0 := ⟨RX4, TX4, 3, "IcicleRings$Cause", rfl, in_X4, by decide, wd_331, Or.inl rfl⟩
theorem fl_X11_135_1 : FL RX11 135 1 0 := ⟨RX1, TX1, 3, "IcicleRings$Cause", rfl, in_X1, by decide, wd_331, Or.inl rfl⟩
theorem fl_X0_13_0 : FL RX0 13 0 1 := ⟨RX0, TX0, 3, "IcicleRings$Cause", rfl, in_X0, by decide, wd_332, Or.inl rfl⟩
theorem fp_X0_13_0 : FP RX0 13 0 1 .int true := ⟨RX0, TX0, 3, "IcicleRings$Cause", tyX0, rfl, in_X0, by decide, wd_332, Or.inl rfl, tyX0_ok, nmX0, rfl, (fun _ => rfl), rfl⟩
theorem fl_X0_13_10 : FL RX0 13 10 1 := ⟨RX10, TX10, 3, "IcicleRings$Cause", rfl, in_X10, by decide, wd_332, Or.inl rfl⟩
theorem fp_X0_13_10 : FP RX0 13 10 1 .int true := ⟨RX10, TX10, 3, "IcicleRings$Cause", tyX10, rfl, in_X10, by decide, wd_332, Or.inl rfl, tyX10_ok, nmX10, rfl, (fun _ => rfl), rfl⟩
theorem fl_X0_13_8 : FL RX0 13 8 1 := ⟨RX8, TX8, 3, "IcicleRings$Cause", rfl, in_X8, by decide, wd_332, Or.inl rfl⟩
theorem fp_X0_13_8 : FP RX0 13 8 1 .int true := ⟨RX8, TX8, 3, "IcicleRings$Cause", tyX8, rfl, in_X8, by decide, wd_332, Or.inl rfl, tyX8_ok, nmX8, rfl, (fun _ => rfl), rfl⟩
theorem fl_X0_13_5 : FL RX0 13 5 1 := ⟨RX5, TX5, 3, "IcicleRings$Cause", rfl, in_X5, by decide, wd_332, Or.inl rfl⟩
theorem fp_X0_13_5 : FP RX0 13 5 1 .int true := ⟨RX5, TX5, 3, "IcicleRings$Cause", tyX5, rfl, in_X5, by decide, wd_332, Or.inl rfl, tyX5_ok, nmX5, rfl, (fun _ => rfl), rfl⟩
theorem fl_X0_13_7 : FL RX0 13 7 1 := ⟨RX7, TX7, 3, "IcicleRings$Cause", rfl, in_X7, by decide, wd_332, Or.inl rfl⟩
theorem fp_X0_13_7 : FP RX0 13 7 1 .int true := ⟨RX7, TX7, 3, "IcicleRings$Cause", tyX7, rfl, in_X7, by decide, wd_332, Or.inl rfl, tyX7_ok, nmX7, rfl, (fun _ => rfl), rfl⟩
theorem fl_X0_13_4 : FL RX0 13 4 1 := ⟨RX4, TX4, 3, "IcicleRings$Cause", rfl, in_X4, by decide, wd_332, Or.inl rfl⟩
theorem fp_X0_13_4 : FP RX0 13 4 1 .int true := ⟨RX4, TX4, 3, "IcicleRings$Cause", tyX4, rfl, in_X4, by decide, wd_332, Or.inl rfl, tyX4_ok, nmX4, rfl, (fun _ => rfl), rfl⟩
theorem fl_X0_13_1 : FL RX0 13 1 1 := ⟨RX1, TX1, 3, "IcicleRings$Cause", rfl, in_X1, by decide, wd_332, Or.inl rfl⟩
theorem fp_X0_13_1 : FP RX0 13 1 1 .int true := ⟨RX1, TX1, 3, "IcicleRings$Cause", tyX1, rfl, in_X1, by decide, wd_332, Or.inl rfl, tyX1_ok, nmX1, rfl, (fun _ => rfl), rfl⟩
theorem fl_X4_27_4 : FL RX4 27 4 1 := ⟨RX4, TX4, 3, "IcicleRings$Leaning", rfl, in_X4, by decide, wd_333, Or.inr wd_334⟩
theorem fl_X0_16_0 : FL RX0 16 0 2 := ⟨RX0, TX0, 3, "IcicleRings$Cause", rfl, in_X0, by decide, wd_335, Or.inl rfl⟩
theorem fp_X0_16_0 : FP RX0 16 0 2 .int true := ⟨RX0, TX0, 3, "IcicleRings$Cause", tyX0, rfl, in_X0, by decide, wd_335, Or.inl rfl, tyX0_ok, nmX0, rfl, (fun _ => rfl), rfl⟩
theorem fl_X0_16_10 : FL RX0 16 10 2 := ⟨RX10, TX10, 3, "IcicleRings$Cause", rfl, in_X10, by decide, wd_335, Or.inl rfl⟩
theorem fp_X0_16_10 : FP RX0 16 10 2 .int true := ⟨RX10, TX10, 3, "IcicleRings$Cause", tyX10, rfl, in_X10, by decide, wd_335, Or.inl rfl, tyX10_ok, nmX10, rfl, (fun _ => rfl), rfl⟩
theorem fl_X0_16_8 : FL RX0 16 8 2 := ⟨RX8, TX8, 3, "IcicleRings$Cause", rfl, in_X8, by decide, wd_335, Or.inl rfl⟩
theorem fp_X0_16_8 : FP RX0 16 8 2 .int true := ⟨RX8, TX8, 3, "IcicleRings$Cause", tyX8, rfl, in_X8, by decide, wd_335, Or.inl rfl, tyX8_ok, nmX8, rfl, (fun _ => rfl), rfl⟩
theorem fl_X0_16_5 : FL RX0 16 5 2 := ⟨RX5, TX5, 3, "IcicleRings$Cause", rfl, in_X5, by decide, wd_335, Or.inl rfl⟩
theorem fp_X0_16_5 : FP RX0 16 5 2 .int true := ⟨RX5, TX5, 3, "IcicleRings$Cause", tyX5, rfl, in_X5, by decide, wd_335, Or.inl rfl, tyX5_ok, nmX5, rfl, (fun _ => rfl), rfl⟩
theorem fl_X0_16_7 : FL RX0 16 7 2 := ⟨RX7, TX7, 3, "IcicleRings$Cause", rfl, in_X7, by decide, wd_335, Or.inl rfl⟩
theorem fp_X0_16_7 : FP RX0 16 7 2 .int true := ⟨RX7, TX7, 3, "IcicleRings$Cause", tyX7, rfl, in_X7, by decide, wd_335, Or.inl rfl, tyX7_ok, nmX7, rfl, (fun _ => rfl), rfl⟩
theorem fl_X0_16_4 : FL RX0 16 4 2 := ⟨RX4, TX4, 3, "IcicleRings$Cause", rfl, in_X4, by decide, wd_335, Or.inl rfl⟩
theorem fp_X0_16_4 : FP RX0 16 4 2 .int true := ⟨RX4, TX4, 3, "IcicleRings$Cause", tyX4, rfl, in_X4, by decide, wd_335, Or.inl rfl, tyX4_ok, nmX4, rfl, (fun _ => rfl), rfl⟩
theorem fl_X0_16_1 : FL RX0 16 1 2 := ⟨RX1, TX1, 3, "IcicleRings$Cause", rfl, in_X1, by decide, wd_335, Or.inl rfl⟩
theorem fp_X0_16_1 : FP RX0 16 1 2 .int true := ⟨RX1, TX1, 3, "IcicleRings$Cause", tyX1, rfl, in_X1, by decide, wd_335, Or.inl rfl, tyX1_ok, nmX1, rfl, (fun _ => rfl), rfl⟩
theorem fl_X8_7_8 : FL RX8 7 8 2 := ⟨RX8, TX8, 3, "IcicleRings$Side", rfl, in_X8, by decide, wd_336, Or.inr wd_337⟩
theorem fl_X8_7_5 : FL RX8 7 5 2 := ⟨RX5, TX5, 3, "IcicleRings$Side", rfl, in_X5, by decide, wd_336, Or.inr wd_337⟩
theorem fl_X8_7_7 : FL RX8 7 7 2 := ⟨RX7, TX7, 3, "IcicleRings$Side", rfl, in_X7, by decide, wd_336, Or.inr wd_337⟩
theorem fl_X5_11_5 : FL RX5 11 5 2 := ⟨RX5, TX5, 3, "IcicleRings$Ringed", rfl, in_X5, by decide, wd_338, Or.inr wd_339⟩
theorem fl_X5_11_7 : FL RX5 11 7 2 := ⟨RX7, TX7, 3, "IcicleRings$Ringed", rfl, in_X7, by decide, wd_338, Or.inr wd_339⟩
theorem fl_X7_11_7 : FL RX7 11 7 2 := ⟨RX7, TX7, 3, "IcicleRings$Salted", rfl, in_X7, by decide, wd_340, Or.inr wd_341⟩
theorem fl_X1_20_1 : FL RX1 20 1 2 := ⟨RX1, TX1, 3, "IcicleRings$Forked", rfl, in_X1, by decide, wd_342, Or.inr wd_343⟩
theorem fl_X11_140_0 : FL RX11 140 0 2 := ⟨RX0, TX0, 3, "IcicleRings$Cause", rfl, in_X0, by decide, wd_344, Or.inl rfl⟩
theorem fl_X11_140_10 : FL RX11 140 10 2 := ⟨RX10, TX10, 3, "IcicleRings$Cause", rfl, in_X10, by decide, wd_344, Or.inl rfl⟩
theorem fl_X11_140_8 : FL RX11 140 8 2 := ⟨RX8, TX8, 3, "IcicleRings$Cause", rfl, in_X8, by decide, wd_344, Or.inl rfl⟩
theorem fl_X11_140_5 : FL RX11 140 5 2 := ⟨RX5, TX5, 3, "IcicleRings$Cause", rfl, in_X5, by decide, wd_344, Or.inl rfl⟩
theorem fl_X11_140_7 : FL RX11 140 7 2 := ⟨RX7, TX7, 3, "IcicleRings$Cause", rfl, in_X7, by decide, wd_344, Or.inl rfl⟩
theorem fl_X11_140_4 : FL RX11 140 4 2 := ⟨RX4, TX4, 3, "IcicleRings$Cause", rfl, in_X4, by decide, wd_344, Or.inl rfl⟩
theorem fl_X11_140_1 : FL RX11 140 1 2 := ⟨RX1, TX1, 3, "IcicleRings$Cause", rfl, in_X1, by decide, wd_344, Or.inl rfl⟩
theorem fl_X9_9_9 : FL RX9 9 9 0 := ⟨RX9, TX9, 5, "IcicleRings$Text", rfl, in_X9, by decide, wd_513, Or.inl rfl⟩
theorem fp_X9_9_9 : FP RX9 9 9 0 (.array .int) true := ⟨RX9, TX9, 5, "IcicleRings$Text", tyX9, rfl, in_X9, by decide, wd_513, Or.inl rfl, tyX9_ok, nmX9, rfl, (fun _ => rfl), rfl⟩
theorem fl_X9_15_9 : FL RX9 15 9 1 := ⟨RX9, TX9, 5, "IcicleRings$Text", rfl, in_X9, by decide, wd_514, Or.inl rfl⟩
theorem fp_X9_15_9 : FP RX9 15 9 1 (.array .int) true := ⟨RX9, TX9, 5, "IcicleRings$Text", tyX9, rfl, in_X9, by decide, wd_514, Or.inl rfl, tyX9_ok, nmX9, rfl, (fun _ => rfl), rfl⟩
theorem fl_X9_18_9 : FL RX9 18 9 2 := ⟨RX9, TX9, 5, "IcicleRings$Text", rfl, in_X9, by decide, wd_515, Or.inl rfl⟩
theorem fp_X9_18_9 : FP RX9 18 9 2 .int false := ⟨RX9, TX9, 5, "IcicleRings$Text", tyX9, rfl, in_X9, by decide, wd_515, Or.inl rfl, tyX9_ok, nmX9, rfl, (fun q => by cases q), rfl⟩
theorem fl_X9_22_9 : FL RX9 22 9 3 := ⟨RX9, TX9, 5, "IcicleRings$Text", rfl, in_X9, by decide, wd_516, Or.inl rfl⟩
theorem fp_X9_22_9 : FP RX9 22 9 3 .int false := ⟨RX9, TX9, 5, "IcicleRings$Text", tyX9, rfl, in_X9, by decide, wd_516, Or.inl rfl, tyX9_ok, nmX9, rfl, (fun q => by cases q), rfl⟩
theorem fl_X9_25_9 : FL RX9 25 9 4 := ⟨RX9, TX9, 5, "IcicleRings$Text", rfl, in_X9, by decide, wd_517, Or.inl rfl⟩
theorem fp_X9_25_9 : FP RX9 25 9 4 .int false := ⟨RX9, TX9, 5, "IcicleRings$Text", tyX9, rfl, in_X9, by decide, wd_517, Or.inl rfl, tyX9_ok, nmX9, rfl, (fun q => by cases q), rfl⟩
theorem fl_X12_7_12 : FL RX12 7 12 0 := ⟨RX12, TX12, 23, "IcicleRingsModel", rfl, in_X12, by decide, wd_936, Or.inl rfl⟩
theorem fp_X12_7_12 : FP RX12 7 12 0 (.array .int) true := ⟨RX12, TX12, 23, "IcicleRingsModel", tyX12, rfl, in_X12, by decide, wd_936, Or.inl rfl, tyX12_ok, nmX12, rfl, (fun _ => rfl), rfl⟩
theorem fl_X12_13_12 : FL RX12 13 12 1 := ⟨RX12, TX12, 23, "IcicleRingsModel", rfl, in_X12, by decide, wd_937, Or.inl rfl⟩
theorem fp_X12_13_12 : FP RX12 13 12 1 (.array .int) true := ⟨RX12, TX12, 23, "IcicleRingsModel", tyX12, rfl, in_X12, by decide, wd_937, Or.inl rfl, tyX12_ok, nmX12, rfl, (fun _ => rfl), rfl⟩
theorem fl_X12_16_12 : FL RX12 16 12 2 := ⟨RX12, TX12, 23, "IcicleRingsModel", rfl, in_X12, by decide, wd_938, Or.inl rfl⟩
theorem fp_X12_16_12 : FP RX12 16 12 2 (.array .int) true := ⟨RX12, TX12, 23, "IcicleRingsModel", tyX12, rfl, in_X12, by decide, wd_938, Or.inl rfl, tyX12_ok, nmX12, rfl, (fun _ => rfl), rfl⟩
theorem fl_X12_273_12 : FL RX12 273 12 3 := ⟨RX12, TX12, 23, "IcicleRingsModel", rfl, in_X12, by decide, wd_939, Or.inl rfl⟩
theorem fp_X12_273_12 : FP RX12 273 12 3 .int false := ⟨RX12, TX12, 23, "IcicleRingsModel", tyX12, rfl, in_X12, by decide, wd_939, Or.inl rfl, tyX12_ok, nmX12, rfl, (fun q => by cases q), rfl⟩
theorem fl_X12_19_12 : FL RX12 19 12 4 := ⟨RX12, TX12, 23, "IcicleRingsModel", rfl, in_X12, by decide, wd_940, Or.inl rfl⟩
theorem fp_X12_19_12 : FP RX12 19 12 4 (.array .int) true := ⟨RX12, TX12, 23, "IcicleRingsModel", tyX12, rfl, in_X12, by decide, wd_940, Or.inl rfl, tyX12_ok, nmX12, rfl, (fun _ => rfl), rfl⟩
theorem fl_X12_116_12 : FL RX12 116 12 5 := ⟨RX12, TX12, 23, "IcicleRingsModel", rfl, in_X12, by decide, wd_941, Or.inl rfl⟩
theorem fp_X12_116_12 : FP RX12 116 12 5 .int false := ⟨RX12, TX12, 23, "IcicleRingsModel", tyX12, rfl, in_X12, by decide, wd_941, Or.inl rfl, tyX12_ok, nmX12, rfl, (fun q => by cases q), rfl⟩
theorem fl_X12_106_12 : FL RX12 106 12 6 := ⟨RX12, TX12, 23, "IcicleRingsModel", rfl, in_X12, by decide, wd_942, Or.inl rfl⟩
theorem fp_X12_106_12 : FP RX12 106 12 6 .int false := ⟨RX12, TX12, 23, "IcicleRingsModel", tyX12, rfl, in_X12, by decide, wd_942, Or.inl rfl, tyX12_ok, nmX12, rfl, (fun q => by cases q), rfl⟩
theorem fl_X12_110_12 : FL RX12 110 12 7 := ⟨RX12, TX12, 23, "IcicleRingsModel", rfl, in_X12, by decide, wd_943, Or.inl rfl⟩
theorem fp_X12_110_12 : FP RX12 110 12 7 .int false := ⟨RX12, TX12, 23, "IcicleRingsModel", tyX12, rfl, in_X12, by decide, wd_943, Or.inl rfl, tyX12_ok, nmX12, rfl, (fun q => by cases q), rfl⟩
theorem fl_X12_113_12 : FL RX12 113 12 8 := ⟨RX12, TX12, 23, "IcicleRingsModel", rfl, in_X12, by decide, wd_944, Or.inl rfl⟩
theorem fp_X12_113_12 : FP RX12 113 12 8 .int false := ⟨RX12, TX12, 23, "IcicleRingsModel", tyX12, rfl, in_X12, by decide, wd_944, Or.inl rfl, tyX12_ok, nmX12, rfl, (fun q => by cases q), rfl⟩
theorem fl_X12_141_12 : FL RX12 141 12 9 := ⟨RX12, TX12, 23, "IcicleRingsModel", rfl, in_X12, by decide, wd_945, Or.inl rfl⟩
theorem fp_X12_141_12 : FP RX12 141 12 9 .int false := ⟨RX12, TX12, 23, "IcicleRingsModel", tyX12, rfl, in_X12, by decide, wd_945, Or.inl rfl, tyX12_ok, nmX12, rfl, (fun q => by cases q), rfl⟩
theorem fl_X12_22_12 : FL RX12 22 12 10 := ⟨RX12, TX12, 23, "IcicleRingsModel", rfl, in_X12, by decide, wd_946, Or.inl rfl⟩
theorem fp_X12_22_12 : FP RX12 22 12 10 (.array .int) true := ⟨RX12, TX12, 23, "IcicleRingsModel", tyX12, rfl, in_X12, by decide, wd_946, Or.inl rfl, tyX12_ok, nmX12, rfl, (fun _ => rfl), rfl⟩
theorem fl_X12_25_12 : FL RX12 25 12 11 := ⟨RX12, TX12, 23, "IcicleRingsModel", rfl, in_X12, by decide, wd_947, Or.inl rfl⟩
theorem fp_X12_25_12 : FP RX12 25 12 11 (.array .int) true := ⟨RX12, TX12, 23, "IcicleRingsModel", tyX12, rfl, in_X12, by decide, wd_947, Or.inl rfl, tyX12_ok, nmX12, rfl, (fun _ => rfl), rfl⟩
theorem fl_X12_191_12 : FL RX12 191 12 12 := ⟨RX12, TX12, 23, "IcicleRingsModel", rfl, in_X12, by decide, wd_948, Or.inl rfl⟩
theorem fp_X12_191_12 : FP RX12 191 12 12 .int false := ⟨RX12, TX12, 23, "IcicleRingsModel", tyX12, rfl, in_X12, by decide, wd_948, Or.inl rfl, tyX12_ok, nmX12, rfl, (fun q => by cases q), rfl⟩
theorem fl_X12_28_12 : FL RX12 28 12 13 := ⟨RX12, TX12, 23, "IcicleRingsModel", rfl, in_X12, by decide, wd_949, Or.inl rfl⟩
theorem fp_X12_28_12 : FP RX12 28 12 13 (.array .int) true := ⟨RX12, TX12, 23, "IcicleRingsModel", tyX12, rfl, in_X12, by decide, wd_949, Or.inl rfl, tyX12_ok, nmX12, rfl, (fun _ => rfl), rfl⟩
theorem fl_X12_31_12 : FL RX12 31 12 14 := ⟨RX12, TX12, 23, "IcicleRingsModel", rfl, in_X12, by decide, wd_950, Or.inl rfl⟩
theorem fp_X12_31_12 : FP RX12 31 12 14 (.array .int) true := ⟨RX12, TX12, 23, "IcicleRingsModel", tyX12, rfl, in_X12, by decide, wd_950, Or.inl rfl, tyX12_ok, nmX12, rfl, (fun _ => rfl), rfl⟩
theorem fl_X12_232_12 : FL RX12 232 12 15 := ⟨RX12, TX12, 23, "IcicleRingsModel", rfl, in_X12, by decide, wd_951, Or.inl rfl⟩
theorem fp_X12_232_12 : FP RX12 232 12 15 .int false := ⟨RX12, TX12, 23, "IcicleRingsModel", tyX12, rfl, in_X12, by decide, wd_951, Or.inl rfl, tyX12_ok, nmX12, rfl, (fun q => by cases q), rfl⟩
theorem fl_X12_34_12 : FL RX12 34 12 16 := ⟨RX12, TX12, 23, "IcicleRingsModel", rfl, in_X12, by decide, wd_952, Or.inl rfl⟩
theorem fp_X12_34_12 : FP RX12 34 12 16 (.array .int) true := ⟨RX12, TX12, 23, "IcicleRingsModel", tyX12, rfl, in_X12, by decide, wd_952, Or.inl rfl, tyX12_ok, nmX12, rfl, (fun _ => rfl), rfl⟩
theorem fl_X12_241_12 : FL RX12 241 12 17 := ⟨RX12, TX12, 23, "IcicleRingsModel", rfl, in_X12, by decide, wd_953, Or.inl rfl⟩
theorem fp_X12_241_12 : FP RX12 241 12 17 .int false := ⟨RX12, TX12, 23, "IcicleRingsModel", tyX12, rfl, in_X12, by decide, wd_953, Or.inl rfl, tyX12_ok, nmX12, rfl, (fun q => by cases q), rfl⟩
theorem fl_X12_244_12 : FL RX12 244 12 18 := ⟨RX12, TX12, 23, "IcicleRingsModel", rfl, in_X12, by decide, wd_954, Or.inl rfl⟩
theorem fp_X12_244_12 : FP RX12 244 12 18 .int false := ⟨RX12, TX12, 23, "IcicleRingsModel", tyX12, rfl, in_X12, by decide, wd_954, Or.inl rfl, tyX12_ok, nmX12, rfl, (fun q => by cases q), rfl⟩
theorem fl_X12_37_12 : FL RX12 37 12 19 := ⟨RX12, TX12, 23, "IcicleRingsModel", rfl, in_X12, by decide, wd_955, Or.inl rfl⟩
theorem fp_X12_37_12 : FP RX12 37 12 19 (.array .int) true := ⟨RX12, TX12, 23, "IcicleRingsModel", tyX12, rfl, in_X12, by decide, wd_955, Or.inl rfl, tyX12_ok, nmX12, rfl, (fun _ => rfl), rfl⟩
theorem fl_X12_40_12 : FL RX12 40 12 20 := ⟨RX12, TX12, 23, "IcicleRingsModel", rfl, in_X12, by decide, wd_956, Or.inl rfl⟩
theorem fp_X12_40_12 : FP RX12 40 12 20 (.array .int) true := ⟨RX12, TX12, 23, "IcicleRingsModel", tyX12, rfl, in_X12, by decide, wd_956, Or.inl rfl, tyX12_ok, nmX12, rfl, (fun _ => rfl), rfl⟩
theorem fl_X12_43_12 : FL RX12 43 12 21 := ⟨RX12, TX12, 23, "IcicleRingsModel", rfl, in_X12, by decide, wd_957, Or.inl rfl⟩
theorem fp_X12_43_12 : FP RX12 43 12 21 (.array .int) true := ⟨RX12, TX12, 23, "IcicleRingsModel", tyX12, rfl, in_X12, by decide, wd_957, Or.inl rfl, tyX12_ok, nmX12, rfl, (fun _ => rfl), rfl⟩
theorem fl_X12_46_12 : FL RX12 46 12 22 := ⟨RX12, TX12, 23, "IcicleRingsModel", rfl, in_X12, by decide, wd_958, Or.inl rfl⟩
theorem fp_X12_46_12 : FP RX12 46 12 22 (.array .int) true := ⟨RX12, TX12, 23, "IcicleRingsModel", tyX12, rfl, in_X12, by decide, wd_958, Or.inl rfl, tyX12_ok, nmX12, rfl, (fun _ => rfl), rfl⟩
theorem fn_X0 : FN 0 3 RX0 [.int 0, .int 0, .int 0] := ⟨TX0, tyX0, rfl, in_X0, tyX0_ok, wd_403, wd_65, by decide +kernel⟩
theorem fn_X1 : FN 1 3 RX1 [.int 0, .int 0, .int 0] := ⟨TX1, tyX1, rfl, in_X1, tyX1_ok, wd_393, wd_71, by decide +kernel⟩
theorem fn_X2 : FN 2 13 RX2 [.null, .null, .null, .null, .null, .int 0, .int 0, .int 0, .int 0, .int 0, .int 0, .int 0, .int 0] := ⟨TX2, tyX2, rfl, in_X2, tyX2_ok, wd_89, wd_60, by decide +kernel⟩
theorem fn_X3 : FN 3 5 RX3 [.null, .null, .null, .null, .int 0] := ⟨TX3, tyX3, rfl, in_X3, tyX3_ok, wd_83, wd_59, by decide +kernel⟩
theorem fn_X4 : FN 4 3 RX4 [.int 0, .int 0, .int 0] := ⟨TX4, tyX4, rfl, in_X4, tyX4_ok, wd_383, wd_70, by decide +kernel⟩
theorem fn_X5 : FN 5 3 RX5 [.int 0, .int 0, .int 0] := ⟨TX5, tyX5, rfl, in_X5, tyX5_ok, wd_363, wd_68, by decide +kernel⟩
theorem fn_X6 : FN 6 3 RX6 [.null, .int 0, .int 0] := ⟨TX6, tyX6, rfl, in_X6, tyX6_ok, wd_167, wd_62, by decide +kernel⟩
theorem fn_X7 : FN 7 3 RX7 [.int 0, .int 0, .int 0] := ⟨TX7, tyX7, rfl, in_X7, tyX7_ok, wd_373, wd_69, by decide +kernel⟩
theorem fn_X8 : FN 8 3 RX8 [.int 0, .int 0, .int 0] := ⟨TX8, tyX8, rfl, in_X8, tyX8_ok, wd_353, wd_67, by decide +kernel⟩
theorem fn_X9 : FN 9 5 RX9 [.null, .null, .int 0, .int 0, .int 0] := ⟨TX9, tyX9, rfl, in_X9, tyX9_ok, wd_454, wd_72, by decide +kernel⟩
theorem fn_X10 : FN 10 3 RX10 [.int 0, .int 0, .int 0] := ⟨TX10, tyX10, rfl, in_X10, tyX10_ok, wd_322, wd_66, by decide +kernel⟩
theorem fn_X11 : FN 11 10 RX11 [.null, .null, .null, .null, .null, .null, .null, .null, .null, .int 0] := ⟨TX11, tyX11, rfl, in_X11, tyX11_ok, wd_75, wd_58, by decide +kernel⟩
theorem fn_X12 : FN 12 23 RX12 [.null, .null, .null, .int 0, .null, .int 0, .int 0, .int 0, .int 0, .int 0, .null, .null, .int 0, .null, .null, .int 0, .null, .int 0, .int 0, .null, .null, .null, .null] := ⟨TX12, tyX12, rfl, in_X12, tyX12_ok, wd_930, wd_64, by decide +kernel⟩
