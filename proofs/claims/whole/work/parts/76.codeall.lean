/-! all methods at once -/
def yAll (P : Nat → Prop) : List Nat → Prop
  | [] => True
  | y :: r => P y ∧ yAll P r
theorem yAll_in {P : Nat → Prop} : ∀ (l : List Nat), yAll P l → ∀ y ∈ l, P y
  | [], _, _, h => absurd h List.not_mem_nil
  | a :: r, h, y, hy => (List.mem_cons.mp hy).elim (fun e => e ▸ h.1) (fun q => yAll_in r h.2 y q)
theorem bo_all_0 : yAll (fun y => (bk y).all (blkOK y) = true) [0, 1, 2, 3, 4, 5, 6, 7, 8, 9, 10, 11, 12, 13, 14, 15, 16, 17, 18, 19, 20, 21, 22, 23, 24, 25, 26, 27, 28, 29, 30, 31, 32, 33, 34, 35, 36, 37, 38, 39] := ⟨bo_0, bo_1, bo_2, bo_3, bo_4, bo_5, bo_6, bo_7, bo_8, bo_9, bo_10, bo_11, bo_12, bo_13, bo_14, bo_15, bo_16, bo_17, bo_18, bo_19, bo_20, bo_21, bo_22, bo_23, bo_24, bo_25, bo_26, bo_27, bo_28, bo_29, bo_30, bo_31, bo_32, bo_33, bo_34, bo_35, bo_36, bo_37, bo_38, bo_39, trivial⟩
theorem bo_all_1 : yAll (fun y => (bk y).all (blkOK y) = true) [40, 41, 42, 43, 44, 45, 46, 47, 48, 49, 50, 51, 52, 53, 54, 55, 56, 57, 58, 59, 60, 61, 62, 63, 64, 65, 66, 67, 68, 69, 70, 71, 72, 73, 74, 75, 76, 77, 78, 79] := ⟨bo_40, bo_41, bo_42, bo_43, bo_44, bo_45, bo_46, bo_47, bo_48, bo_49, bo_50, bo_51, bo_52, bo_53, bo_54, bo_55, bo_56, bo_57, bo_58, bo_59, bo_60, bo_61, bo_62, bo_63, bo_64, bo_65, bo_66, bo_67, bo_68, bo_69, bo_70, bo_71, bo_72, bo_73, bo_74, bo_75, bo_76, bo_77, bo_78, bo_79, trivial⟩
theorem bo_all_2 : yAll (fun y => (bk y).all (blkOK y) = true) [80, 81, 82, 83, 84, 85, 86, 87, 88, 89, 90, 91, 92, 93, 94, 95, 96, 97, 98, 99, 100, 101, 102, 103, 104, 105, 106, 107, 108, 109, 110, 111, 112, 113, 114, 115, 116, 117, 118, 119] := ⟨bo_80, bo_81, bo_82, bo_83, bo_84, bo_85, bo_86, bo_87, bo_88, bo_89, bo_90, bo_91, bo_92, bo_93, bo_94, bo_95, bo_96, bo_97, bo_98, bo_99, bo_100, bo_101, bo_102, bo_103, bo_104, bo_105, bo_106, bo_107, bo_108, bo_109, bo_110, bo_111, bo_112, bo_113, bo_114, bo_115, bo_116, bo_117, bo_118, bo_119, trivial⟩
theorem bo_all_3 : yAll (fun y => (bk y).all (blkOK y) = true) [120, 121, 122, 123, 124, 125, 126, 127, 128, 129, 130, 131, 132, 133, 134, 135, 136, 137, 138, 139, 140, 141, 142, 143, 144, 145, 146, 147, 148, 149, 150, 151, 152, 153, 154, 155, 156, 157, 158, 159] := ⟨bo_120, bo_121, bo_122, bo_123, bo_124, bo_125, bo_126, bo_127, bo_128, bo_129, bo_130, bo_131, bo_132, bo_133, bo_134, bo_135, bo_136, bo_137, bo_138, bo_139, bo_140, bo_141, bo_142, bo_143, bo_144, bo_145, bo_146, bo_147, bo_148, bo_149, bo_150, bo_151, bo_152, bo_153, bo_154, bo_155, bo_156, bo_157, bo_158, bo_159, trivial⟩
theorem bo_all_4 : yAll (fun y => (bk y).all (blkOK y) = true) [160, 161, 162, 163, 164, 165, 166, 167, 168, 169, 170, 171, 172, 173, 174, 175, 176, 177, 178, 179, 180, 181, 182, 183, 184, 185, 186, 187, 188, 189, 190, 191, 192, 193, 194, 195, 196, 197, 198, 199] := ⟨bo_160, bo_161, bo_162, bo_163, bo_164, bo_165, bo_166, bo_167, bo_168, bo_169, bo_170, bo_171, bo_172, bo_173, bo_174, bo_175, bo_176, bo_177, bo_178, bo_179, bo_180, bo_181, bo_182, bo_183, bo_184, bo_185, bo_186, bo_187, bo_188, bo_189, bo_190, bo_191, bo_192, bo_193, bo_194, bo_195, bo_196, bo_197, bo_198, bo_199, trivial⟩
theorem bo_all_5 : yAll (fun y => (bk y).all (blkOK y) = true) [200, 201, 202, 203, 204, 205, 206, 207, 208, 209, 210, 211, 212, 213, 214, 215, 216, 217, 218, 219, 220, 221, 222, 223, 224, 225, 226, 227, 228, 229, 230, 231, 232, 233, 234, 235, 236, 237, 238, 239] := ⟨bo_200, bo_201, bo_202, bo_203, bo_204, bo_205, bo_206, bo_207, bo_208, bo_209, bo_210, bo_211, bo_212, bo_213, bo_214, bo_215, bo_216, bo_217, bo_218, bo_219, bo_220, bo_221, bo_222, bo_223, bo_224, bo_225, bo_226, bo_227, bo_228, bo_229, bo_230, bo_231, bo_232, bo_233, bo_234, bo_235, bo_236, bo_237, bo_238, bo_239, trivial⟩
theorem bo_all_6 : yAll (fun y => (bk y).all (blkOK y) = true) [240, 241, 242, 243, 244, 245, 246, 247, 248, 249, 250, 251, 252, 253, 254, 255, 256, 257, 258, 259, 260, 261, 262, 263, 264, 265, 266, 267, 268, 269, 270, 271, 272, 273, 274, 275, 276, 277, 278, 279] := ⟨bo_240, bo_241, bo_242, bo_243, bo_244, bo_245, bo_246, bo_247, bo_248, bo_249, bo_250, bo_251, bo_252, bo_253, bo_254, bo_255, bo_256, bo_257, bo_258, bo_259, bo_260, bo_261, bo_262, bo_263, bo_264, bo_265, bo_266, bo_267, bo_268, bo_269, bo_270, bo_271, bo_272, bo_273, bo_274, bo_275, bo_276, bo_277, bo_278, bo_279, trivial⟩
theorem bo_all_7 : yAll (fun y => (bk y).all (blkOK y) = true) [280, 281, 282, 283, 284, 285, 286, 287, 288, 289, 290, 291, 292, 293, 294, 295, 296, 297, 298, 299, 300, 301] := ⟨bo_280, bo_281, bo_282, bo_283, bo_284, bo_285, bo_286, bo_287, bo_288, bo_289, bo_290, bo_291, bo_292, bo_293, bo_294, bo_295, bo_296, bo_297, bo_298, bo_299, bo_300, bo_301, trivial⟩
theorem yr {n a : Nat} : ∀ {y : Nat}, a ≤ y → y < a + n → y ∈ List.range' a n := fun h1 h2 => List.mem_range'_1.mpr ⟨h1, h2⟩
theorem bo_of {y : Nat} (h : y < 302) : (bk y).all (blkOK y) = true := by
  by_cases h0 : y < 40
  · exact yAll_in _ bo_all_0 y (by have := yr (n := 40) (a := 0) (y := y) (by omega) (by omega); simpa [List.range'] using this)
  by_cases h1 : y < 80
  · exact yAll_in _ bo_all_1 y (by have := yr (n := 40) (a := 40) (y := y) (by omega) (by omega); simpa [List.range'] using this)
  by_cases h2 : y < 120
  · exact yAll_in _ bo_all_2 y (by have := yr (n := 40) (a := 80) (y := y) (by omega) (by omega); simpa [List.range'] using this)
  by_cases h3 : y < 160
  · exact yAll_in _ bo_all_3 y (by have := yr (n := 40) (a := 120) (y := y) (by omega) (by omega); simpa [List.range'] using this)
  by_cases h4 : y < 200
  · exact yAll_in _ bo_all_4 y (by have := yr (n := 40) (a := 160) (y := y) (by omega) (by omega); simpa [List.range'] using this)
  by_cases h5 : y < 240
  · exact yAll_in _ bo_all_5 y (by have := yr (n := 40) (a := 200) (y := y) (by omega) (by omega); simpa [List.range'] using this)
  by_cases h6 : y < 280
  · exact yAll_in _ bo_all_6 y (by have := yr (n := 40) (a := 240) (y := y) (by omega) (by omega); simpa [List.range'] using this)
  by_cases h7 : y < 302
  · exact yAll_in _ bo_all_7 y (by have := yr (n := 22) (a := 280) (y := y) (by omega) (by omega); simpa [List.range'] using this)
  omega
theorem yCd_of {y : Nat} (h : y < 302) : Cond.code (yNm y) (yBy y) (yML y) (yRt y) ∈ lw_tbl := by
  by_cases h0 : y < 40
  · exact yCd_in _ yCd_0 y (by have := yr (n := 40) (a := 0) (y := y) (by omega) (by omega); simpa [List.range'] using this)
  by_cases h1 : y < 80
  · exact yCd_in _ yCd_1 y (by have := yr (n := 40) (a := 40) (y := y) (by omega) (by omega); simpa [List.range'] using this)
  by_cases h2 : y < 120
  · exact yCd_in _ yCd_2 y (by have := yr (n := 40) (a := 80) (y := y) (by omega) (by omega); simpa [List.range'] using this)
  by_cases h3 : y < 160
  · exact yCd_in _ yCd_3 y (by have := yr (n := 40) (a := 120) (y := y) (by omega) (by omega); simpa [List.range'] using this)
  by_cases h4 : y < 200
  · exact yCd_in _ yCd_4 y (by have := yr (n := 40) (a := 160) (y := y) (by omega) (by omega); simpa [List.range'] using this)
  by_cases h5 : y < 240
  · exact yCd_in _ yCd_5 y (by have := yr (n := 40) (a := 200) (y := y) (by omega) (by omega); simpa [List.range'] using this)
  by_cases h6 : y < 280
  · exact yCd_in _ yCd_6 y (by have := yr (n := 40) (a := 240) (y := y) (by omega) (by omega); simpa [List.range'] using this)
  by_cases h7 : y < 302
  · exact yCd_in _ yCd_7 y (by have := yr (n := 22) (a := 280) (y := y) (by omega) (by omega); simpa [List.range'] using this)
  omega
theorem yOK_of {y : Nat} (h : y < 302) : yOK y = true := by
  by_cases h0 : y < 20
  · exact List.all_eq_true.mp yOK_0 y (yr (by omega) (by omega))
  by_cases h1 : y < 40
  · exact List.all_eq_true.mp yOK_1 y (yr (by omega) (by omega))
  by_cases h2 : y < 60
  · exact List.all_eq_true.mp yOK_2 y (yr (by omega) (by omega))
  by_cases h3 : y < 80
  · exact List.all_eq_true.mp yOK_3 y (yr (by omega) (by omega))
  by_cases h4 : y < 100
  · exact List.all_eq_true.mp yOK_4 y (yr (by omega) (by omega))
  by_cases h5 : y < 120
  · exact List.all_eq_true.mp yOK_5 y (yr (by omega) (by omega))
  by_cases h6 : y < 140
  · exact List.all_eq_true.mp yOK_6 y (yr (by omega) (by omega))
  by_cases h7 : y < 160
  · exact List.all_eq_true.mp yOK_7 y (yr (by omega) (by omega))
  by_cases h8 : y < 180
  · exact List.all_eq_true.mp yOK_8 y (yr (by omega) (by omega))
  by_cases h9 : y < 200
  · exact List.all_eq_true.mp yOK_9 y (yr (by omega) (by omega))
  by_cases h10 : y < 220
  · exact List.all_eq_true.mp yOK_10 y (yr (by omega) (by omega))
  by_cases h11 : y < 240
  · exact List.all_eq_true.mp yOK_11 y (yr (by omega) (by omega))
  by_cases h12 : y < 260
  · exact List.all_eq_true.mp yOK_12 y (yr (by omega) (by omega))
  by_cases h13 : y < 280
  · exact List.all_eq_true.mp yOK_13 y (yr (by omega) (by omega))
  by_cases h14 : y < 300
  · exact List.all_eq_true.mp yOK_14 y (yr (by omega) (by omega))
  by_cases h15 : y < 302
  · exact List.all_eq_true.mp yOK_15 y (yr (by omega) (by omega))
  omega
