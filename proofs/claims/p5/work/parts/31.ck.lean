/-! ===== the law's own words ===== -/
theorem iv_two {P : Nat → Prop} {a b : Nat} (h1 : ∀ i, i < a → P i) (h2 : ∀ j, j < b → P (a + j)) : ∀ i, i < a + b → P i := fun i hi => by
  rcases Nat.lt_or_ge i a with g | g
  · exact h1 i g
  · have e := h2 (i - a) (by omega)
    have e2 : a + (i - a) = i := by omega
    rw [e2] at e
    exact e
theorem cl_0 : ∀ j, j < 50 → iv_k 309 (0 + j) = true := by decide +kernel
theorem cm_50 : ∀ i, i < 50 → iv_k 309 i = true := iv_two (P := fun pc => iv_k 309 pc = true) (a := 0) (b := 50) iv_lt0 cl_0
theorem cl_50 : ∀ j, j < 50 → iv_k 309 (50 + j) = true := by decide +kernel
theorem cm_100 : ∀ i, i < 100 → iv_k 309 i = true := iv_two (P := fun pc => iv_k 309 pc = true) (a := 50) (b := 50) cm_50 cl_50
theorem cl_100 : ∀ j, j < 50 → iv_k 309 (100 + j) = true := by decide +kernel
theorem cm_150 : ∀ i, i < 150 → iv_k 309 i = true := iv_two (P := fun pc => iv_k 309 pc = true) (a := 100) (b := 50) cm_100 cl_100
theorem cl_150 : ∀ j, j < 50 → iv_k 309 (150 + j) = true := by decide +kernel
theorem cm_200 : ∀ i, i < 200 → iv_k 309 i = true := iv_two (P := fun pc => iv_k 309 pc = true) (a := 150) (b := 50) cm_150 cl_150
theorem cl_200 : ∀ j, j < 50 → iv_k 309 (200 + j) = true := by decide +kernel
theorem cm_250 : ∀ i, i < 250 → iv_k 309 i = true := iv_two (P := fun pc => iv_k 309 pc = true) (a := 200) (b := 50) cm_200 cl_200
theorem cl_250 : ∀ j, j < 50 → iv_k 309 (250 + j) = true := by decide +kernel
theorem cm_300 : ∀ i, i < 300 → iv_k 309 i = true := iv_two (P := fun pc => iv_k 309 pc = true) (a := 250) (b := 50) cm_250 cl_250
theorem cl_300 : ∀ j, j < 50 → iv_k 309 (300 + j) = true := by decide +kernel
theorem cm_350 : ∀ i, i < 350 → iv_k 309 i = true := iv_two (P := fun pc => iv_k 309 pc = true) (a := 300) (b := 50) cm_300 cl_300
theorem cl_350 : ∀ j, j < 50 → iv_k 309 (350 + j) = true := by decide +kernel
theorem cm_400 : ∀ i, i < 400 → iv_k 309 i = true := iv_two (P := fun pc => iv_k 309 pc = true) (a := 350) (b := 50) cm_350 cl_350
theorem cl_400 : ∀ j, j < 50 → iv_k 309 (400 + j) = true := by decide +kernel
theorem cm_450 : ∀ i, i < 450 → iv_k 309 i = true := iv_two (P := fun pc => iv_k 309 pc = true) (a := 400) (b := 50) cm_400 cl_400
theorem cl_450 : ∀ j, j < 50 → iv_k 309 (450 + j) = true := by decide +kernel
theorem cm_500 : ∀ i, i < 500 → iv_k 309 i = true := iv_two (P := fun pc => iv_k 309 pc = true) (a := 450) (b := 50) cm_450 cl_450
theorem cl_500 : ∀ j, j < 50 → iv_k 309 (500 + j) = true := by decide +kernel
theorem cm_550 : ∀ i, i < 550 → iv_k 309 i = true := iv_two (P := fun pc => iv_k 309 pc = true) (a := 500) (b := 50) cm_500 cl_500
theorem cl_550 : ∀ j, j < 50 → iv_k 309 (550 + j) = true := by decide +kernel
theorem cm_600 : ∀ i, i < 600 → iv_k 309 i = true := iv_two (P := fun pc => iv_k 309 pc = true) (a := 550) (b := 50) cm_550 cl_550
theorem cl_600 : ∀ j, j < 50 → iv_k 309 (600 + j) = true := by decide +kernel
theorem cm_650 : ∀ i, i < 650 → iv_k 309 i = true := iv_two (P := fun pc => iv_k 309 pc = true) (a := 600) (b := 50) cm_600 cl_600
theorem cl_650 : ∀ j, j < 50 → iv_k 309 (650 + j) = true := by decide +kernel
theorem cm_700 : ∀ i, i < 700 → iv_k 309 i = true := iv_two (P := fun pc => iv_k 309 pc = true) (a := 650) (b := 50) cm_650 cl_650
theorem cl_700 : ∀ j, j < 50 → iv_k 309 (700 + j) = true := by decide +kernel
theorem cm_750 : ∀ i, i < 750 → iv_k 309 i = true := iv_two (P := fun pc => iv_k 309 pc = true) (a := 700) (b := 50) cm_700 cl_700
theorem cl_750 : ∀ j, j < 50 → iv_k 309 (750 + j) = true := by decide +kernel
theorem cm_800 : ∀ i, i < 800 → iv_k 309 i = true := iv_two (P := fun pc => iv_k 309 pc = true) (a := 750) (b := 50) cm_750 cl_750
theorem cl_800 : ∀ j, j < 50 → iv_k 309 (800 + j) = true := by decide +kernel
theorem cm_850 : ∀ i, i < 850 → iv_k 309 i = true := iv_two (P := fun pc => iv_k 309 pc = true) (a := 800) (b := 50) cm_800 cl_800
theorem cl_850 : ∀ j, j < 50 → iv_k 309 (850 + j) = true := by decide +kernel
theorem cm_900 : ∀ i, i < 900 → iv_k 309 i = true := iv_two (P := fun pc => iv_k 309 pc = true) (a := 850) (b := 50) cm_850 cl_850
theorem cl_900 : ∀ j, j < 50 → iv_k 309 (900 + j) = true := by decide +kernel
theorem cm_950 : ∀ i, i < 950 → iv_k 309 i = true := iv_two (P := fun pc => iv_k 309 pc = true) (a := 900) (b := 50) cm_900 cl_900
theorem cl_950 : ∀ j, j < 50 → iv_k 309 (950 + j) = true := by decide +kernel
theorem cm_1000 : ∀ i, i < 1000 → iv_k 309 i = true := iv_two (P := fun pc => iv_k 309 pc = true) (a := 950) (b := 50) cm_950 cl_950
theorem cl_1000 : ∀ j, j < 50 → iv_k 309 (1000 + j) = true := by decide +kernel
theorem cm_1050 : ∀ i, i < 1050 → iv_k 309 i = true := iv_two (P := fun pc => iv_k 309 pc = true) (a := 1000) (b := 50) cm_1000 cl_1000
theorem cl_1050 : ∀ j, j < 50 → iv_k 309 (1050 + j) = true := by decide +kernel
theorem cm_1100 : ∀ i, i < 1100 → iv_k 309 i = true := iv_two (P := fun pc => iv_k 309 pc = true) (a := 1050) (b := 50) cm_1050 cl_1050
theorem cl_1100 : ∀ j, j < 50 → iv_k 309 (1100 + j) = true := by decide +kernel
theorem cm_1150 : ∀ i, i < 1150 → iv_k 309 i = true := iv_two (P := fun pc => iv_k 309 pc = true) (a := 1100) (b := 50) cm_1100 cl_1100
theorem cl_1150 : ∀ j, j < 50 → iv_k 309 (1150 + j) = true := by decide +kernel
theorem cm_1200 : ∀ i, i < 1200 → iv_k 309 i = true := iv_two (P := fun pc => iv_k 309 pc = true) (a := 1150) (b := 50) cm_1150 cl_1150
theorem cl_1200 : ∀ j, j < 50 → iv_k 309 (1200 + j) = true := by decide +kernel
theorem cm_1250 : ∀ i, i < 1250 → iv_k 309 i = true := iv_two (P := fun pc => iv_k 309 pc = true) (a := 1200) (b := 50) cm_1200 cl_1200
theorem cl_1250 : ∀ j, j < 50 → iv_k 309 (1250 + j) = true := by decide +kernel
theorem cm_1300 : ∀ i, i < 1300 → iv_k 309 i = true := iv_two (P := fun pc => iv_k 309 pc = true) (a := 1250) (b := 50) cm_1250 cl_1250
theorem cl_1300 : ∀ j, j < 50 → iv_k 309 (1300 + j) = true := by decide +kernel
theorem cm_1350 : ∀ i, i < 1350 → iv_k 309 i = true := iv_two (P := fun pc => iv_k 309 pc = true) (a := 1300) (b := 50) cm_1300 cl_1300
theorem cl_1350 : ∀ j, j < 27 → iv_k 309 (1350 + j) = true := by decide +kernel
theorem cm_1377 : ∀ i, i < 1377 → iv_k 309 i = true := iv_two (P := fun pc => iv_k 309 pc = true) (a := 1350) (b := 27) cm_1350 cl_1350
theorem ck_309 : ∀ pc, iv_k 309 pc = true := iv_cka 1377 (by decide +kernel) (cm_1377)
theorem ck_310 : ∀ pc, iv_k 310 pc = true := iv_cka 53 (by decide +kernel) (by decide +kernel)
theorem ck_311 : ∀ pc, iv_k 311 pc = true := iv_cka 11 (by decide +kernel) (by decide +kernel)
theorem ck_312 : ∀ pc, iv_k 312 pc = true := iv_cka 14 (by decide +kernel) (by decide +kernel)
theorem ck_313 : ∀ pc, iv_k 313 pc = true := iv_cka 21 (by decide +kernel) (by decide +kernel)
theorem ck_314 : ∀ pc, iv_k 314 pc = true := iv_cka 19 (by decide +kernel) (by decide +kernel)
theorem ck_315 : ∀ pc, iv_k 315 pc = true := iv_cka 10 (by decide +kernel) (by decide +kernel)
theorem ck_316 : ∀ pc, iv_k 316 pc = true := iv_cka 13 (by decide +kernel) (by decide +kernel)
theorem ck_317 : ∀ pc, iv_k 317 pc = true := iv_cka 18 (by decide +kernel) (by decide +kernel)
theorem ckb_1 : ∀ mi, mi < 40 → ∀ pc, iv_k mi pc = true := iv_lt (iv_lt (iv_lt (iv_lt (iv_lt (iv_lt (iv_lt (iv_lt (iv_lt (iv_lt (iv_lt (iv_lt (iv_lt (iv_lt (iv_lt (iv_lt (iv_lt (iv_lt (iv_lt (iv_lt (iv_lt (iv_lt (iv_lt (iv_lt (iv_lt (iv_lt (iv_lt (iv_lt (iv_lt (iv_lt (iv_lt (iv_lt (iv_lt (iv_lt (iv_lt (iv_lt (iv_lt (iv_lt (iv_lt (iv_lt (iv_lt0) ck_0) ck_1) ck_2) ck_3) ck_4) ck_5) ck_6) ck_7) ck_8) ck_9) ck_10) ck_11) ck_12) ck_13) ck_14) ck_15) ck_16) ck_17) ck_18) ck_19) ck_20) ck_21) ck_22) ck_23) ck_24) ck_25) ck_26) ck_27) ck_28) ck_29) ck_30) ck_31) ck_32) ck_33) ck_34) ck_35) ck_36) ck_37) ck_38) ck_39
theorem ckb_2 : ∀ mi, mi < 80 → ∀ pc, iv_k mi pc = true := iv_lt (iv_lt (iv_lt (iv_lt (iv_lt (iv_lt (iv_lt (iv_lt (iv_lt (iv_lt (iv_lt (iv_lt (iv_lt (iv_lt (iv_lt (iv_lt (iv_lt (iv_lt (iv_lt (iv_lt (iv_lt (iv_lt (iv_lt (iv_lt (iv_lt (iv_lt (iv_lt (iv_lt (iv_lt (iv_lt (iv_lt (iv_lt (iv_lt (iv_lt (iv_lt (iv_lt (iv_lt (iv_lt (iv_lt (iv_lt (ckb_1) ck_40) ck_41) ck_42) ck_43) ck_44) ck_45) ck_46) ck_47) ck_48) ck_49) ck_50) ck_51) ck_52) ck_53) ck_54) ck_55) ck_56) ck_57) ck_58) ck_59) ck_60) ck_61) ck_62) ck_63) ck_64) ck_65) ck_66) ck_67) ck_68) ck_69) ck_70) ck_71) ck_72) ck_73) ck_74) ck_75) ck_76) ck_77) ck_78) ck_79
theorem ckb_3 : ∀ mi, mi < 120 → ∀ pc, iv_k mi pc = true := iv_lt (iv_lt (iv_lt (iv_lt (iv_lt (iv_lt (iv_lt (iv_lt (iv_lt (iv_lt (iv_lt (iv_lt (iv_lt (iv_lt (iv_lt (iv_lt (iv_lt (iv_lt (iv_lt (iv_lt (iv_lt (iv_lt (iv_lt (iv_lt (iv_lt (iv_lt (iv_lt (iv_lt (iv_lt (iv_lt (iv_lt (iv_lt (iv_lt (iv_lt (iv_lt (iv_lt (iv_lt (iv_lt (iv_lt (iv_lt (ckb_2) ck_80) ck_81) ck_82) ck_83) ck_84) ck_85) ck_86) ck_87) ck_88) ck_89) ck_90) ck_91) ck_92) ck_93) ck_94) ck_95) ck_96) ck_97) ck_98) ck_99) ck_100) ck_101) ck_102) ck_103) ck_104) ck_105) ck_106) ck_107) ck_108) ck_109) ck_110) ck_111) ck_112) ck_113) ck_114) ck_115) ck_116) ck_117) ck_118) ck_119
theorem ckb_4 : ∀ mi, mi < 160 → ∀ pc, iv_k mi pc = true := iv_lt (iv_lt (iv_lt (iv_lt (iv_lt (iv_lt (iv_lt (iv_lt (iv_lt (iv_lt (iv_lt (iv_lt (iv_lt (iv_lt (iv_lt (iv_lt (iv_lt (iv_lt (iv_lt (iv_lt (iv_lt (iv_lt (iv_lt (iv_lt (iv_lt (iv_lt (iv_lt (iv_lt (iv_lt (iv_lt (iv_lt (iv_lt (iv_lt (iv_lt (iv_lt (iv_lt (iv_lt (iv_lt (iv_lt (iv_lt (ckb_3) ck_120) ck_121) ck_122) ck_123) ck_124) ck_125) ck_126) ck_127) ck_128) ck_129) ck_130) ck_131) ck_132) ck_133) ck_134) ck_135) ck_136) ck_137) ck_138) ck_139) ck_140) ck_141) ck_142) ck_143) ck_144) ck_145) ck_146) ck_147) ck_148) ck_149) ck_150) ck_151) ck_152) ck_153) ck_154) ck_155) ck_156) ck_157) ck_158) ck_159
theorem ckb_5 : ∀ mi, mi < 200 → ∀ pc, iv_k mi pc = true := iv_lt (iv_lt (iv_lt (iv_lt (iv_lt (iv_lt (iv_lt (iv_lt (iv_lt (iv_lt (iv_lt (iv_lt (iv_lt (iv_lt (iv_lt (iv_lt (iv_lt (iv_lt (iv_lt (iv_lt (iv_lt (iv_lt (iv_lt (iv_lt (iv_lt (iv_lt (iv_lt (iv_lt (iv_lt (iv_lt (iv_lt (iv_lt (iv_lt (iv_lt (iv_lt (iv_lt (iv_lt (iv_lt (iv_lt (iv_lt (ckb_4) ck_160) ck_161) ck_162) ck_163) ck_164) ck_165) ck_166) ck_167) ck_168) ck_169) ck_170) ck_171) ck_172) ck_173) ck_174) ck_175) ck_176) ck_177) ck_178) ck_179) ck_180) ck_181) ck_182) ck_183) ck_184) ck_185) ck_186) ck_187) ck_188) ck_189) ck_190) ck_191) ck_192) ck_193) ck_194) ck_195) ck_196) ck_197) ck_198) ck_199
theorem ckb_6 : ∀ mi, mi < 240 → ∀ pc, iv_k mi pc = true := iv_lt (iv_lt (iv_lt (iv_lt (iv_lt (iv_lt (iv_lt (iv_lt (iv_lt (iv_lt (iv_lt (iv_lt (iv_lt (iv_lt (iv_lt (iv_lt (iv_lt (iv_lt (iv_lt (iv_lt (iv_lt (iv_lt (iv_lt (iv_lt (iv_lt (iv_lt (iv_lt (iv_lt (iv_lt (iv_lt (iv_lt (iv_lt (iv_lt (iv_lt (iv_lt (iv_lt (iv_lt (iv_lt (iv_lt (iv_lt (ckb_5) ck_200) ck_201) ck_202) ck_203) ck_204) ck_205) ck_206) ck_207) ck_208) ck_209) ck_210) ck_211) ck_212) ck_213) ck_214) ck_215) ck_216) ck_217) ck_218) ck_219) ck_220) ck_221) ck_222) ck_223) ck_224) ck_225) ck_226) ck_227) ck_228) ck_229) ck_230) ck_231) ck_232) ck_233) ck_234) ck_235) ck_236) ck_237) ck_238) ck_239
theorem ckb_7 : ∀ mi, mi < 280 → ∀ pc, iv_k mi pc = true := iv_lt (iv_lt (iv_lt (iv_lt (iv_lt (iv_lt (iv_lt (iv_lt (iv_lt (iv_lt (iv_lt (iv_lt (iv_lt (iv_lt (iv_lt (iv_lt (iv_lt (iv_lt (iv_lt (iv_lt (iv_lt (iv_lt (iv_lt (iv_lt (iv_lt (iv_lt (iv_lt (iv_lt (iv_lt (iv_lt (iv_lt (iv_lt (iv_lt (iv_lt (iv_lt (iv_lt (iv_lt (iv_lt (iv_lt (iv_lt (ckb_6) ck_240) ck_241) ck_242) ck_243) ck_244) ck_245) ck_246) ck_247) ck_248) ck_249) ck_250) ck_251) ck_252) ck_253) ck_254) ck_255) ck_256) ck_257) ck_258) ck_259) ck_260) ck_261) ck_262) ck_263) ck_264) ck_265) ck_266) ck_267) ck_268) ck_269) ck_270) ck_271) ck_272) ck_273) ck_274) ck_275) ck_276) ck_277) ck_278) ck_279
theorem ckb_8 : ∀ mi, mi < 318 → ∀ pc, iv_k mi pc = true := iv_lt (iv_lt (iv_lt (iv_lt (iv_lt (iv_lt (iv_lt (iv_lt (iv_lt (iv_lt (iv_lt (iv_lt (iv_lt (iv_lt (iv_lt (iv_lt (iv_lt (iv_lt (iv_lt (iv_lt (iv_lt (iv_lt (iv_lt (iv_lt (iv_lt (iv_lt (iv_lt (iv_lt (iv_lt (iv_lt (iv_lt (iv_lt (iv_lt (iv_lt (iv_lt (iv_lt (iv_lt (iv_lt (ckb_7) ck_280) ck_281) ck_282) ck_283) ck_284) ck_285) ck_286) ck_287) ck_288) ck_289) ck_290) ck_291) ck_292) ck_293) ck_294) ck_295) ck_296) ck_297) ck_298) ck_299) ck_300) ck_301) ck_302) ck_303) ck_304) ck_305) ck_306) ck_307) ck_308) ck_309) ck_310) ck_311) ck_312) ck_313) ck_314) ck_315) ck_316) ck_317
theorem lk_CK : ∀ mi pc, iv_k mi pc = true := fun mi => by
  by_cases h : mi < 318
  · exact ckb_8 mi h
  · exact iv_ck0 (pg_c_no h)
