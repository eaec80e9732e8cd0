/-! names of links, trees by their cell -/
def bz (b : Bool) : Int32 := if b then nI 1 else nI 0
def isT (a : Nat) : Bool := [1, 13, 25, 59, 71, 83, 95, 107, 119].contains a
theorem isT_mem {a : Nat} (h : isT a = true) : a = 1 ∨ a = 13 ∨ a = 25 ∨ a = 59 ∨ a = 71 ∨ a = 83 ∨ a = 95 ∨ a = 107 ∨ a = 119 := by simpa [isT] using h
theorem isT_lt {a : Nat} (h : isT a = true) : a < 139 := by rcases isT_mem h with rfl | rfl | rfl | rfl | rfl | rfl | rfl | rfl | rfl <;> decide
theorem isT_c {a : Nat} (h : isT a = true) : pm_sC a = some 4 := by rcases isT_mem h with rfl | rfl | rfl | rfl | rfl | rfl | rfl | rfl | rfl <;> decide +kernel
theorem isT_i {a f : Nat} (h : isT a = true) (hf : f = 11 ∨ f = 12) : pm_sF a 4 f = some none := by rcases hf with rfl | rfl <;> rcases isT_mem h with rfl | rfl | rfl | rfl | rfl | rfl | rfl | rfl | rfl <;> decide +kernel
theorem isT_r {a f : Nat} (h : isT a = true) (hf : f < 11) : pm_sF a 4 f = some (some (a + (f + 1))) := by
  have key : ∀ a ∈ [1, 13, 25, 59, 71, 83, 95, 107, 119], ∀ f, f < 11 → pm_sF a 4 f = some (some (a + (f + 1))) := by decide +kernel
  exact key a (by simpa [isT] using h) f hf
theorem isT_l {a f : Nat} (h : isT a = true) (hf : 0 < f ∧ f < 11) : pm_sL 0 (a + f) = some 24 := by
  have key : ∀ a ∈ [1, 13, 25, 59, 71, 83, 95, 107, 119], ∀ f, f < 11 → 0 < f → pm_sL 0 (a + f) = some 24 := by decide +kernel
  exact key a (by simpa [isT] using h) f hf.2 hf.1
theorem isT_g {a f : Nat} (h : isT a = true) (hf : f = 11) : pm_sL 0 (a + f) = some 4 := by subst hf; rcases isT_mem h with rfl | rfl | rfl | rfl | rfl | rfl | rfl | rfl | rfl <;> decide +kernel
theorem isT_la {a f : Nat} (h : isT a = true) (hf : f < 12) : a + f < 139 := by rcases isT_mem h with rfl | rfl | rfl | rfl | rfl | rfl | rfl | rfl | rfl <;> omega
theorem isT_k {k : Nat} (h : k < 6) : isT (59 + 12 * k) = true := by
  rcases (by omega : k = 0 ∨ k = 1 ∨ k = 2 ∨ k = 3 ∨ k = 4 ∨ k = 5) with rfl | rfl | rfl | rfl | rfl | rfl <;> rfl
theorem f_0_9 : pm_fld 0 9 = some (0, 0) := by decide +kernel
theorem f_0_15 : pm_fld 0 15 = some (0, 1) := by decide +kernel
theorem f_0_18 : pm_fld 0 18 = some (0, 2) := by decide +kernel
theorem f_0_22 : pm_fld 0 22 = some (0, 3) := by decide +kernel
theorem f_0_25 : pm_fld 0 25 = some (0, 4) := by decide +kernel
theorem f_0_28 : pm_fld 0 28 = some (0, 5) := by decide +kernel
theorem f_0_31 : pm_fld 0 31 = some (0, 6) := by decide +kernel
theorem f_0_34 : pm_fld 0 34 = some (0, 7) := by decide +kernel
theorem f_0_38 : pm_fld 0 38 = some (0, 8) := by decide +kernel
theorem f_0_54 : pm_fld 0 54 = some (4, 11) := by decide +kernel
theorem f_0_60 : pm_fld 0 60 = some (4, 12) := by decide +kernel
theorem f_0_63 : pm_fld 0 63 = some (4, 1) := by decide +kernel
theorem f_0_66 : pm_fld 0 66 = some (4, 0) := by decide +kernel
theorem f_0_69 : pm_fld 0 69 = some (4, 2) := by decide +kernel
theorem f_0_79 : pm_fld 0 79 = some (4, 3) := by decide +kernel
theorem f_0_82 : pm_fld 0 82 = some (4, 9) := by decide +kernel
theorem f_0_85 : pm_fld 0 85 = some (4, 8) := by decide +kernel
theorem f_0_98 : pm_fld 0 98 = some (4, 6) := by decide +kernel
theorem f_0_105 : pm_fld 0 105 = some (4, 5) := by decide +kernel
theorem f_0_108 : pm_fld 0 108 = some (4, 4) := by decide +kernel
theorem f_1_11 : pm_fld 1 11 = some (1, 0) := by decide +kernel
theorem f_1_17 : pm_fld 1 17 = some (1, 1) := by decide +kernel
theorem f_1_21 : pm_fld 1 21 = some (1, 2) := by decide +kernel
theorem f_2_9 : pm_fld 2 9 = some (2, 0) := by decide +kernel
theorem f_2_15 : pm_fld 2 15 = some (2, 1) := by decide +kernel
theorem f_2_19 : pm_fld 2 19 = some (4, 12) := by decide +kernel
theorem f_2_31 : pm_fld 2 31 = some (0, 6) := by decide +kernel
theorem f_2_63 : pm_fld 2 63 = some (4, 7) := by decide +kernel
theorem f_2_66 : pm_fld 2 66 = some (4, 1) := by decide +kernel
theorem f_3_9 : pm_fld 3 9 = some (3, 0) := by decide +kernel
theorem f_3_15 : pm_fld 3 15 = some (3, 1) := by decide +kernel
theorem f_3_19 : pm_fld 3 19 = some (3, 2) := by decide +kernel
theorem f_3_22 : pm_fld 3 22 = some (3, 3) := by decide +kernel
theorem f_3_25 : pm_fld 3 25 = some (3, 4) := by decide +kernel
theorem f_3_28 : pm_fld 3 28 = some (3, 5) := by decide +kernel
theorem f_3_31 : pm_fld 3 31 = some (3, 6) := by decide +kernel
theorem f_3_34 : pm_fld 3 34 = some (3, 7) := by decide +kernel
theorem f_3_38 : pm_fld 3 38 = some (3, 8) := by decide +kernel
theorem f_3_41 : pm_fld 3 41 = some (3, 9) := by decide +kernel
theorem f_3_44 : pm_fld 3 44 = some (3, 10) := by decide +kernel
theorem f_4_9 : pm_fld 4 9 = some (4, 0) := by decide +kernel
theorem f_4_15 : pm_fld 4 15 = some (4, 1) := by decide +kernel
theorem f_4_18 : pm_fld 4 18 = some (4, 2) := by decide +kernel
theorem f_4_21 : pm_fld 4 21 = some (4, 3) := by decide +kernel
theorem f_4_24 : pm_fld 4 24 = some (4, 4) := by decide +kernel
theorem f_4_27 : pm_fld 4 27 = some (4, 5) := by decide +kernel
theorem f_4_30 : pm_fld 4 30 = some (4, 6) := by decide +kernel
theorem f_4_33 : pm_fld 4 33 = some (4, 7) := by decide +kernel
theorem f_4_36 : pm_fld 4 36 = some (4, 8) := by decide +kernel
theorem f_4_39 : pm_fld 4 39 = some (4, 9) := by decide +kernel
theorem f_4_42 : pm_fld 4 42 = some (4, 10) := by decide +kernel
theorem f_4_45 : pm_fld 4 45 = some (4, 11) := by decide +kernel
theorem f_4_49 : pm_fld 4 49 = some (4, 12) := by decide +kernel
theorem f_5_9 : pm_fld 5 9 = some (5, 0) := by decide +kernel
theorem f_5_15 : pm_fld 5 15 = some (5, 1) := by decide +kernel
theorem f_5_18 : pm_fld 5 18 = some (5, 2) := by decide +kernel
theorem f_5_21 : pm_fld 5 21 = some (5, 3) := by decide +kernel
theorem f_5_28 : pm_fld 5 28 = some (4, 12) := by decide +kernel
theorem f_5_33 : pm_fld 5 33 = some (0, 2) := by decide +kernel
theorem f_5_39 : pm_fld 5 39 = some (4, 0) := by decide +kernel
theorem f_5_42 : pm_fld 5 42 = some (0, 0) := by decide +kernel
theorem f_5_46 : pm_fld 5 46 = some (0, 1) := by decide +kernel
theorem f_6_10 : pm_fld 6 10 = some (6, 0) := by decide +kernel
theorem f_6_16 : pm_fld 6 16 = some (6, 1) := by decide +kernel
theorem f_6_19 : pm_fld 6 19 = some (6, 2) := by decide +kernel
theorem f_6_25 : pm_fld 6 25 = some (6, 3) := by decide +kernel
theorem f_6_29 : pm_fld 6 29 = some (6, 4) := by decide +kernel
theorem f_6_35 : pm_fld 6 35 = some (6, 5) := by decide +kernel
theorem f_6_42 : pm_fld 6 42 = some (6, 6) := by decide +kernel
theorem f_6_49 : pm_fld 6 49 = some (6, 7) := by decide +kernel
theorem f_6_56 : pm_fld 6 56 = some (6, 8) := by decide +kernel
theorem f_6_60 : pm_fld 6 60 = some (6, 9) := by decide +kernel
theorem f_6_64 : pm_fld 6 64 = some (6, 10) := by decide +kernel
theorem f_6_77 : pm_fld 6 77 = some (4, 11) := by decide +kernel
theorem f_6_111 : pm_fld 6 111 = some (4, 3) := by decide +kernel
theorem f_6_115 : pm_fld 6 115 = some (4, 4) := by decide +kernel
theorem f_6_118 : pm_fld 6 118 = some (4, 0) := by decide +kernel
theorem f_6_125 : pm_fld 6 125 = some (4, 2) := by decide +kernel
theorem f_6_131 : pm_fld 6 131 = some (4, 8) := by decide +kernel
theorem f_6_138 : pm_fld 6 138 = some (4, 10) := by decide +kernel
theorem f_6_144 : pm_fld 6 144 = some (0, 4) := by decide +kernel
theorem f_6_151 : pm_fld 6 151 = some (4, 12) := by decide +kernel
theorem f_6_160 : pm_fld 6 160 = some (4, 9) := by decide +kernel
theorem f_6_184 : pm_fld 6 184 = some (3, 1) := by decide +kernel
theorem f_6_194 : pm_fld 6 194 = some (3, 2) := by decide +kernel
theorem f_6_197 : pm_fld 6 197 = some (3, 3) := by decide +kernel
theorem f_6_200 : pm_fld 6 200 = some (3, 4) := by decide +kernel
theorem f_6_203 : pm_fld 6 203 = some (3, 5) := by decide +kernel
theorem f_6_206 : pm_fld 6 206 = some (3, 6) := by decide +kernel
theorem f_6_216 : pm_fld 6 216 = some (3, 7) := by decide +kernel
theorem f_6_219 : pm_fld 6 219 = some (3, 9) := by decide +kernel
theorem f_6_222 : pm_fld 6 222 = some (3, 10) := by decide +kernel
theorem f_6_225 : pm_fld 6 225 = some (3, 8) := by decide +kernel
theorem f_6_233 : pm_fld 6 233 = some (0, 0) := by decide +kernel
theorem f_6_237 : pm_fld 6 237 = some (0, 1) := by decide +kernel
theorem f_6_240 : pm_fld 6 240 = some (4, 1) := by decide +kernel
theorem f_6_250 : pm_fld 6 250 = some (0, 2) := by decide +kernel
theorem f_6_253 : pm_fld 6 253 = some (0, 8) := by decide +kernel
theorem f_6_257 : pm_fld 6 257 = some (0, 3) := by decide +kernel
theorem f_6_260 : pm_fld 6 260 = some (0, 5) := by decide +kernel
theorem f_6_263 : pm_fld 6 263 = some (0, 6) := by decide +kernel
theorem f_6_266 : pm_fld 6 266 = some (4, 5) := by decide +kernel
theorem f_6_268 : pm_fld 6 268 = some (4, 6) := by decide +kernel
theorem f_6_270 : pm_fld 6 270 = some (4, 7) := by decide +kernel
theorem f_6_299 : pm_fld 6 299 = some (5, 0) := by decide +kernel
theorem f_6_300 : pm_fld 6 300 = some (5, 1) := by decide +kernel
theorem f_6_303 : pm_fld 6 303 = some (5, 2) := by decide +kernel
theorem f_6_306 : pm_fld 6 306 = some (5, 3) := by decide +kernel
theorem f_6_334 : pm_fld 6 334 = some (1, 2) := by decide +kernel
theorem f_6_366 : pm_fld 6 366 = some (0, 7) := by decide +kernel
theorem f_7_9 : pm_fld 7 9 = some (7, 0) := by decide +kernel
theorem f_7_13 : pm_fld 7 13 = some (7, 1) := by decide +kernel
theorem f_7_16 : pm_fld 7 16 = some (7, 3) := by decide +kernel
theorem f_7_19 : pm_fld 7 19 = some (7, 5) := by decide +kernel
theorem f_7_22 : pm_fld 7 22 = some (7, 6) := by decide +kernel
theorem f_7_25 : pm_fld 7 25 = some (7, 8) := by decide +kernel
theorem f_7_29 : pm_fld 7 29 = some (7, 17) := by decide +kernel
theorem f_7_32 : pm_fld 7 32 = some (7, 18) := by decide +kernel
theorem f_7_35 : pm_fld 7 35 = some (7, 2) := by decide +kernel
theorem f_7_191 : pm_fld 7 191 = some (7, 12) := by decide +kernel
theorem f_7_195 : pm_fld 7 195 = some (7, 9) := by decide +kernel
theorem f_7_198 : pm_fld 7 198 = some (7, 10) := by decide +kernel
theorem f_7_201 : pm_fld 7 201 = some (7, 11) := by decide +kernel
theorem f_7_227 : pm_fld 7 227 = some (7, 7) := by decide +kernel
theorem f_7_230 : pm_fld 7 230 = some (7, 15) := by decide +kernel
theorem f_7_233 : pm_fld 7 233 = some (7, 14) := by decide +kernel
theorem f_7_236 : pm_fld 7 236 = some (7, 13) := by decide +kernel
theorem f_7_245 : pm_fld 7 245 = some (7, 16) := by decide +kernel
theorem f_7_261 : pm_fld 7 261 = some (7, 19) := by decide +kernel
theorem f_7_264 : pm_fld 7 264 = some (7, 20) := by decide +kernel
theorem f_7_282 : pm_fld 7 282 = some (7, 21) := by decide +kernel
theorem f_7_285 : pm_fld 7 285 = some (7, 22) := by decide +kernel
theorem f_7_288 : pm_fld 7 288 = some (7, 23) := by decide +kernel
theorem f_7_291 : pm_fld 7 291 = some (7, 24) := by decide +kernel
theorem f_7_338 : pm_fld 7 338 = some (7, 4) := by decide +kernel
theorem k_0_41 : pm_mth 0 41 = some (0, 1, mX0_readRates) := rfl
theorem k_0_45 : pm_mth 0 45 = some (0, 1, mX0_readPaths) := rfl
theorem k_0_48 : pm_mth 0 48 = some (0, 1, mX0_readBelow) := rfl
theorem k_0_51 : pm_mth 0 51 = some (0, 1, mX0_readGates) := rfl
theorem k_0_72 : pm_mth 0 72 = some (3, 2, mX6_greatestCommon) := rfl
theorem k_0_76 : pm_mth 0 76 = some (3, 2, mX6_quotient) := rfl
theorem k_0_88 : pm_mth 0 88 = some (0, 3, mX0_isOpenWithout) := rfl
theorem k_0_92 : pm_mth 0 92 = some (1, 1, mJ6_bitCount_0f7a4) := rfl
theorem k_0_101 : pm_mth 0 101 = some (3, 3, mX6_isAbove) := rfl
theorem k_0_111 : pm_mth 0 111 = some (1, 2, mJ13_compare_74951) := rfl
theorem k_1_24 : pm_mth 1 24 = some (2, 0, mX4_init) := rfl
theorem k_1_25 : pm_mth 1 25 = some (0, 1, mX4_take) := rfl
theorem k_2_25 : pm_mth 2 25 = some (0, 2, mX0_drawOf) := rfl
theorem k_2_35 : pm_mth 2 35 = some (0, 3, mX2_powerWithout) := rfl
theorem k_2_39 : pm_mth 2 39 = some (0, 4, mX2_cheapest) := rfl
theorem k_2_43 : pm_mth 2 43 = some (0, 2, mX2_costOf) := rfl
theorem k_2_47 : pm_mth 2 47 = some (1, 1, mJ6_bitCount_0f7a4) := rfl
theorem k_2_59 : pm_mth 2 59 = some (3, 2, mX6_holds) := rfl
theorem k_2_69 : pm_mth 2 69 = some (0, 3, mX0_isOpenWithout) := rfl
theorem k_3_47 : pm_mth 3 47 = some (0, 0, mX3_readNumber) := rfl
theorem k_3_51 : pm_mth 3 51 = some (0, 1, mX3_readSign) := rfl
theorem k_3_55 : pm_mth 3 55 = some (0, 0, mX3_readLeaf) := rfl
theorem k_3_59 : pm_mth 3 59 = some (0, 0, mX3_readStep) := rfl
theorem k_3_62 : pm_mth 3 62 = some (0, 0, mX3_readKind) := rfl
theorem k_3_65 : pm_mth 3 65 = some (0, 1, mX3_readNumberOf) := rfl
theorem k_3_69 : pm_mth 3 69 = some (0, 2, mX3_readDigit) := rfl
theorem k_4_52 : pm_mth 4 52 = some (0, 3, mX4_append) := rfl
theorem k_5_24 : pm_mth 5 24 = some (0, 5, mX5_findAt) := rfl
theorem k_5_49 : pm_mth 5 49 = some (0, 4, mX5_reaches) := rfl
theorem k_5_53 : pm_mth 5 53 = some (1, 4, mX5_lastStep) := rfl
theorem k_5_57 : pm_mth 5 57 = some (0, 4, mX5_reachesByTwo) := rfl
theorem k_5_62 : pm_mth 5 62 = some (3, 3, mX6_isAbove) := rfl
theorem k_6_9 : pm_mth 6 9 = some (2, 0, mX4_init) := rfl
theorem k_6_24 : pm_mth 6 24 = some (4, 0, mX0_init) := rfl
theorem k_6_34 : pm_mth 6 34 = some (2, 0, mX1_init) := rfl
theorem k_6_41 : pm_mth 6 41 = some (4, 0, mX3_init) := rfl
theorem k_6_48 : pm_mth 6 48 = some (4, 0, mX2_init) := rfl
theorem k_6_55 : pm_mth 6 55 = some (4, 0, mX5_init) := rfl
theorem k_6_68 : pm_mth 6 68 = some (0, 1, mX0_read) := rfl
theorem k_6_73 : pm_mth 6 73 = some (0, 1, mX6_refuse) := rfl
theorem k_6_80 : pm_mth 6 80 = some (0, 0, mX6_begin) := rfl
theorem k_6_83 : pm_mth 6 83 = some (0, 1, mX6_finishRates) := rfl
theorem k_6_86 : pm_mth 6 86 = some (0, 3, mX6_refusalOfNode) := rfl
theorem k_6_90 : pm_mth 6 90 = some (0, 3, mX4_append) := rfl
theorem k_6_93 : pm_mth 6 93 = some (0, 1, mX6_finish) := rfl
theorem k_6_96 : pm_mth 6 96 = some (1, 1, mX6_isGroup) := rfl
theorem k_6_100 : pm_mth 6 100 = some (0, 4, mX6_refusalOfLeaf) := rfl
theorem k_6_104 : pm_mth 6 104 = some (0, 5, mX4_appendLeaf) := rfl
theorem k_6_108 : pm_mth 6 108 = some (0, 1, mX6_isNode) := rfl
theorem k_6_121 : pm_mth 6 121 = some (1, 2, mX6_isNumberOf) := rfl
theorem k_6_128 : pm_mth 6 128 = some (0, 1, mX6_isLeaf) := rfl
theorem k_6_134 : pm_mth 6 134 = some (0, 0, mX6_openGates) := rfl
theorem k_6_141 : pm_mth 6 141 = some (0, 1, mX6_skewOf) := rfl
theorem k_6_147 : pm_mth 6 147 = some (0, 1, mX4_drop) := rfl
theorem k_6_154 : pm_mth 6 154 = some (0, 1, mX6_mendingOf) := rfl
theorem k_6_157 : pm_mth 6 157 = some (0, 1, mX6_leastAllowed) := rfl
theorem k_6_163 : pm_mth 6 163 = some (0, 3, mX6_lackOf) := rfl
theorem k_6_166 : pm_mth 6 166 = some (1, 1, mX6_isBudget) := rfl
theorem k_6_169 : pm_mth 6 169 = some (0, 3, mX2_find) := rfl
theorem k_6_173 : pm_mth 6 173 = some (1, 2, mX6_holds) := rfl
theorem k_6_176 : pm_mth 6 176 = some (1, 1, mJ6_bitCount_0f7a4) := rfl
theorem k_6_181 : pm_mth 6 181 = some (1, 1, mX6_isByte) := rfl
theorem k_6_187 : pm_mth 6 187 = some (0, 1, mX3_put) := rfl
theorem k_6_190 : pm_mth 6 190 = some (0, 0, mX3_parse) := rfl
theorem k_6_209 : pm_mth 6 209 = some (0, 3, mX6_stepFrom) := rfl
theorem k_6_212 : pm_mth 6 212 = some (0, 2, mX6_giveUpLaying) := rfl
theorem k_6_228 : pm_mth 6 228 = some (1, 1, mX6_isPart) := rfl
theorem k_6_243 : pm_mth 6 243 = some (1, 2, mX6_greatestCommon) := rfl
theorem k_6_247 : pm_mth 6 247 = some (1, 2, mX6_quotient) := rfl
theorem k_6_273 : pm_mth 6 273 = some (0, 2, mX0_isContent) := rfl
theorem k_6_277 : pm_mth 6 277 = some (0, 2, mX6_leavesOf) := rfl
theorem k_6_281 : pm_mth 6 281 = some (0, 1, mX6_latestOf) := rfl
theorem k_6_284 : pm_mth 6 284 = some (0, 1, mX6_earliestOf) := rfl
theorem k_6_287 : pm_mth 6 287 = some (0, 0, mX6_powerOfAll) := rfl
theorem k_6_291 : pm_mth 6 291 = some (0, 2, mX0_drawOf) := rfl
theorem k_6_296 : pm_mth 6 296 = some (0, 4, mX5_find) := rfl
theorem k_6_309 : pm_mth 6 309 = some (0, 1, mX6_placeOf) := rfl
theorem k_6_312 : pm_mth 6 312 = some (0, 1, mX6_nodesOf) := rfl
theorem k_6_315 : pm_mth 6 315 = some (0, 0, mX6_runningNodes) := rfl
theorem k_6_318 : pm_mth 6 318 = some (0, 0, mX6_contentLeaves) := rfl
theorem k_6_321 : pm_mth 6 321 = some (0, 0, mX6_sumOfPads) := rfl
theorem k_6_324 : pm_mth 6 324 = some (0, 0, mX6_greatestDepth) := rfl
theorem k_6_327 : pm_mth 6 327 = some (0, 0, mX6_skewedGroups) := rfl
theorem k_6_330 : pm_mth 6 330 = some (0, 1, mX1_pop) := rfl
theorem k_6_337 : pm_mth 6 337 = some (0, 1, mX4_take) := rfl
theorem k_6_340 : pm_mth 6 340 = some (0, 1, mX1_push) := rfl
theorem k_6_343 : pm_mth 6 343 = some (0, 0, mX6_refusalOfRates) := rfl
theorem k_6_348 : pm_mth 6 348 = some (1, 3, mX6_isAbove) := rfl
theorem k_6_352 : pm_mth 6 352 = some (0, 1, mX6_refusalOfPlace) := rfl
theorem k_6_355 : pm_mth 6 355 = some (0, 2, mX4_isOfGroup) := rfl
theorem k_6_358 : pm_mth 6 358 = some (0, 2, mX6_runsIn) := rfl
theorem k_6_369 : pm_mth 6 369 = some (0, 2, mX0_compareRates) := rfl
theorem k_7_38 : pm_mth 7 38 = some (1, 3, mX7_isIn) := rfl
theorem k_7_42 : pm_mth 7 42 = some (0, 1, mX7_isNode) := rfl
theorem k_7_46 : pm_mth 7 46 = some (0, 2, mX7_n) := rfl
theorem k_7_50 : pm_mth 7 50 = some (0, 2, mX7_product) := rfl
theorem k_7_54 : pm_mth 7 54 = some (1, 2, mX7_divisor) := rfl
theorem k_7_58 : pm_mth 7 58 = some (0, 1, mX7_above) := rfl
theorem k_7_64 : pm_mth 7 64 = some (0, 1, mX7_below) := rfl
theorem k_7_67 : pm_mth 7 67 = some (0, 1, mX7_isTooFast) := rfl
theorem k_7_70 : pm_mth 7 70 = some (0, 1, mX7_isContent) := rfl
theorem k_7_73 : pm_mth 7 73 = some (0, 2, mX7_isBelow) := rfl
theorem k_7_77 : pm_mth 7 77 = some (0, 2, mX7_leaves) := rfl
theorem k_7_81 : pm_mth 7 81 = some (0, 1, mX7_isOpen) := rfl
theorem k_7_86 : pm_mth 7 86 = some (0, 1, mX7_refuse) := rfl
theorem k_7_90 : pm_mth 7 90 = some (0, 0, mX7_keeps) := rfl
theorem k_7_93 : pm_mth 7 93 = some (0, 0, mX7_contents) := rfl
theorem k_7_97 : pm_mth 7 97 = some (0, 2, mX7_settles) := rfl
theorem k_7_100 : pm_mth 7 100 = some (0, 0, mX7_isAnyTooFast) := rfl
theorem k_7_104 : pm_mth 7 104 = some (0, 0, mX7_goesBack) := rfl
theorem k_7_107 : pm_mth 7 107 = some (0, 0, mX7_remember) := rfl
theorem k_7_110 : pm_mth 7 110 = some (0, 3, mX7_put) := rfl
theorem k_7_114 : pm_mth 7 114 = some (0, 1, mX7_isLeaf) := rfl
theorem k_7_117 : pm_mth 7 117 = some (0, 1, mX7_depth) := rfl
theorem k_7_126 : pm_mth 7 126 = some (0, 1, mX7_whyNotBelow) := rfl
theorem k_7_129 : pm_mth 7 129 = some (1, 2, mX7_isNumber) := rfl
theorem k_7_132 : pm_mth 7 132 = some (0, 3, mX7_comes) := rfl
theorem k_7_136 : pm_mth 7 136 = some (0, 3, mX7_tryAdd) := rfl
theorem k_7_139 : pm_mth 7 139 = some (0, 1, mX7_added) := rfl
theorem k_7_144 : pm_mth 7 144 = some (0, 5, mX7_tryLeaf) := rfl
theorem k_7_148 : pm_mth 7 148 = some (0, 0, mX7_openGates) := rfl
theorem k_7_151 : pm_mth 7 151 = some (0, 1, mX7_runs) := rfl
theorem k_7_154 : pm_mth 7 154 = some (0, 3, mX7_isOf) := rfl
theorem k_7_158 : pm_mth 7 158 = some (0, 1, mX7_arrival) := rfl
theorem k_7_161 : pm_mth 7 161 = some (0, 2, mX7_latest) := rfl
theorem k_7_164 : pm_mth 7 164 = some (0, 2, mX7_growth) := rfl
theorem k_7_169 : pm_mth 7 169 = some (0, 1, mX7_skew) := rfl
theorem k_7_172 : pm_mth 7 172 = some (0, 1, mX7_children) := rfl
theorem k_7_175 : pm_mth 7 175 = some (0, 1, mX7_mending) := rfl
theorem k_7_178 : pm_mth 7 178 = some (0, 1, mX7_powerOf) := rfl
theorem k_7_181 : pm_mth 7 181 = some (0, 1, mX7_canShut) := rfl
theorem k_7_184 : pm_mth 7 184 = some (1, 2, mX7_has) := rfl
theorem k_7_187 : pm_mth 7 187 = some (0, 0, mX7_powerOfAll) := rfl
theorem k_7_204 : pm_mth 7 204 = some (0, 1, mX7_left) := rfl
theorem k_7_207 : pm_mth 7 207 = some (0, 2, mX7_requestAll) := rfl
theorem k_7_211 : pm_mth 7 211 = some (0, 5, mX7_sheds) := rfl
theorem k_7_217 : pm_mth 7 217 = some (1, 1, mX7_isBudget) := rfl
theorem k_7_220 : pm_mth 7 220 = some (0, 1, mX7_shedding) := rfl
theorem k_7_239 : pm_mth 7 239 = some (0, 2, mX7_isAt) := rfl
theorem k_7_242 : pm_mth 7 242 = some (0, 2, mX7_digit) := rfl
theorem k_7_248 : pm_mth 7 248 = some (0, 0, mX7_number) := rfl
theorem k_7_251 : pm_mth 7 251 = some (0, 2, mX7_part) := rfl
theorem k_7_254 : pm_mth 7 254 = some (1, 1, mX7_kindOf) := rfl
theorem k_7_257 : pm_mth 7 257 = some (0, 1, mX7_expects) := rfl
theorem k_7_267 : pm_mth 7 267 = some (0, 0, mX7_readsPath) := rfl
theorem k_7_270 : pm_mth 7 270 = some (0, 3, mX7_childLike) := rfl
theorem k_7_275 : pm_mth 7 275 = some (0, 2, mX7_rate) := rfl
theorem k_7_279 : pm_mth 7 279 = some (0, 2, mX7_leavesOf) := rfl
theorem k_7_294 : pm_mth 7 294 = some (0, 4, mX7_isBetter) := rfl
theorem k_7_304 : pm_mth 7 304 = some (0, 4, mX7_offers) := rfl
theorem k_7_308 : pm_mth 7 308 = some (1, 2, mX7_aboveBehind) := rfl
theorem k_7_312 : pm_mth 7 312 = some (1, 2, mX7_belowBehind) := rfl
theorem k_7_315 : pm_mth 7 315 = some (1, 1, mX7_isStep) := rfl
theorem k_7_320 : pm_mth 7 320 = some (0, 3, mX7_findsWays) := rfl
theorem k_7_324 : pm_mth 7 324 = some (0, 2, mX7_isAhead) := rfl
theorem k_7_329 : pm_mth 7 329 = some (0, 0, mX7_contentMany) := rfl
theorem k_7_332 : pm_mth 7 332 = some (0, 0, mX7_skewed) := rfl
theorem k_7_335 : pm_mth 7 335 = some (0, 1, mX7_sumOf) := rfl
theorem k_8_9 : pm_mth 8 9 = some (2, 0, mX6_init) := rfl
theorem k_8_12 : pm_mth 8 12 = some (2, 0, mX7_init) := rfl
theorem k_8_13 : pm_mth 8 13 = some (0, 1, mX6_source) := rfl
theorem k_8_17 : pm_mth 8 17 = some (0, 1, mX7_source) := rfl
theorem k_8_18 : pm_mth 8 18 = some (0, 3, mX6_add) := rfl
theorem k_8_22 : pm_mth 8 22 = some (0, 3, mX7_add) := rfl
theorem k_8_23 : pm_mth 8 23 = some (0, 5, mX6_leaf) := rfl
theorem k_8_27 : pm_mth 8 27 = some (0, 5, mX7_leaf) := rfl
theorem k_8_28 : pm_mth 8 28 = some (0, 3, mX6_set) := rfl
theorem k_8_31 : pm_mth 8 31 = some (0, 3, mX7_set) := rfl
theorem k_8_32 : pm_mth 8 32 = some (0, 2, mX6_tune) := rfl
theorem k_8_36 : pm_mth 8 36 = some (0, 2, mX7_tune) := rfl
theorem k_8_37 : pm_mth 8 37 = some (0, 2, mX6_request) := rfl
theorem k_8_40 : pm_mth 8 40 = some (0, 2, mX7_request) := rfl
theorem k_8_41 : pm_mth 8 41 = some (0, 2, mX6_limit) := rfl
theorem k_8_44 : pm_mth 8 44 = some (0, 2, mX7_limit) := rfl
theorem k_8_45 : pm_mth 8 45 = some (0, 1, mX6_remove) := rfl
theorem k_8_48 : pm_mth 8 48 = some (0, 1, mX7_remove) := rfl
theorem k_8_49 : pm_mth 8 49 = some (0, 1, mX6_mend) := rfl
theorem k_8_52 : pm_mth 8 52 = some (0, 1, mX7_mend) := rfl
theorem k_8_53 : pm_mth 8 53 = some (0, 1, mX6_shed) := rfl
theorem k_8_56 : pm_mth 8 56 = some (0, 1, mX7_shed) := rfl
theorem k_8_57 : pm_mth 8 57 = some (0, 1, mX6_wouldShed) := rfl
theorem k_8_60 : pm_mth 8 60 = some (0, 1, mX7_wouldShed) := rfl
theorem k_8_61 : pm_mth 8 61 = some (0, 6, mX6_feed) := rfl
theorem k_8_65 : pm_mth 8 65 = some (0, 6, mX7_feed) := rfl
theorem k_8_66 : pm_mth 8 66 = some (0, 0, mX6_lay) := rfl
theorem k_8_70 : pm_mth 8 70 = some (0, 0, mX7_lay) := rfl
theorem k_8_71 : pm_mth 8 71 = some (0, 0, mX6_reason) := rfl
theorem k_8_74 : pm_mth 8 74 = some (0, 0, mX7_reason) := rfl
theorem k_8_75 : pm_mth 8 75 = some (0, 2, mX6_rate) := rfl
theorem k_8_79 : pm_mth 8 79 = some (0, 2, mX7_rate) := rfl
theorem k_8_80 : pm_mth 8 80 = some (0, 2, mX6_again) := rfl
theorem k_8_83 : pm_mth 8 83 = some (0, 2, mX7_again) := rfl
theorem k_8_84 : pm_mth 8 84 = some (0, 2, mX6_node) := rfl
theorem k_8_87 : pm_mth 8 87 = some (0, 2, mX7_node) := rfl
theorem k_8_88 : pm_mth 8 88 = some (0, 2, mX6_ofLeaf) := rfl
theorem k_8_91 : pm_mth 8 91 = some (0, 2, mX7_ofLeaf) := rfl
theorem k_8_92 : pm_mth 8 92 = some (0, 2, mX6_ofGroup) := rfl
theorem k_8_95 : pm_mth 8 95 = some (0, 2, mX7_ofGroup) := rfl
theorem k_8_96 : pm_mth 8 96 = some (0, 1, mX6_power) := rfl
theorem k_8_100 : pm_mth 8 100 = some (0, 1, mX7_power) := rfl
theorem k_8_101 : pm_mth 8 101 = some (0, 3, mX6_way) := rfl
theorem k_8_104 : pm_mth 8 104 = some (0, 3, mX7_way) := rfl
theorem k_8_105 : pm_mth 8 105 = some (0, 1, mX6_ranked) := rfl
theorem k_8_108 : pm_mth 8 108 = some (0, 1, mX7_ranked) := rfl
theorem k_8_109 : pm_mth 8 109 = some (0, 1, mX6_account) := rfl
theorem k_8_112 : pm_mth 8 112 = some (0, 1, mX7_account) := rfl
theorem k_8_113 : pm_mth 8 113 = some (0, 0, mX6_back) := rfl
theorem k_8_116 : pm_mth 8 116 = some (0, 0, mX7_back) := rfl
theorem k_8_117 : pm_mth 8 117 = some (0, 0, mX6_image) := rfl
theorem k_8_120 : pm_mth 8 120 = some (0, 0, mX7_image) := rfl
theorem k_8_121 : pm_mth 8 121 = some (0, 0, mX6_undo) := rfl
theorem k_8_124 : pm_mth 8 124 = some (0, 0, mX7_undo) := rfl
theorem k_8_125 : pm_mth 8 125 = some (0, 1, mX6_count) := rfl
theorem k_8_128 : pm_mth 8 128 = some (0, 1, mX7_count) := rfl
