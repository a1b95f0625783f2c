theorem cf_lim {Ls k : Nat} (hL : Ls ≤ 2048) (hk : k ≤ 512) : (nI Ls - 4 < nI (4 * k)) = (Ls < 4 * k + 4) := by
  apply propext
  rw [Int32.lt_iff_toInt_lt, nI_toInt (by omega)]
  have e : (nI Ls - 4).toInt = (Ls : Int) - 4 := by
    have e4 : (4 : Int32) = nI 4 := by decide +kernel
    by_cases h : 4 ≤ Ls
    · rw [e4, cf_nsub h, nI_toInt (by omega)]
      omega
    · rcases (show Ls = 0 ∨ Ls = 1 ∨ Ls = 2 ∨ Ls = 3 by omega) with rfl | rfl | rfl | rfl <;> decide +kernel
  rw [e]
  omega
theorem cf_and31 (x : Int32) : ∃ q, q < 32 ∧ x &&& 31 = nI q := by
  have e : (31 : Int32) = nI 31 := by decide +kernel
  refine ⟨x.toBitVec.toNat &&& 31, Nat.lt_of_le_of_lt Nat.and_le_right (by decide), ?_⟩
  conv => lhs; rw [cf_of x]
  rw [e, cf_nand]
theorem law_run {xs : Nat → Int32} {Ls : Nat} (hL : Ls ≤ 2048) : ∀ d k w, k + d = 512 → cf_Inv w k → cf_wp (T_law xs Ls) (18, [some (.inr 26), some (.inr 0), some (.inr 15), some (.inl (nI (4 * k)))], [], w) (cf_qb (fun x _ => x = 1)) := by
  intro d
  induction d with
  | zero =>
    intro k w hk hI
    have h1 := eq_true (show Ls < 4 * k + 4 by omega)
    refine r_law_18.mpr ?_
    simp only [r_law_19, r_law_20, r_law_21, r_law_22, r_law_23, cf_lim hL (show k ≤ 512 by omega), h1, ↓reduceIte, r_law_500, r_law_501, and_self, or_true]
  | succ d ih =>
    intro k w hk hI
    have hk5 : k ≤ 512 := by omega
    by_cases h1 : Ls < 4 * k + 4
    · refine r_law_18.mpr ?_
      simp only [r_law_19, r_law_20, r_law_21, r_law_22, r_law_23, cf_lim hL hk5, h1, ↓reduceIte, r_law_500, r_law_501, and_self, or_true]
    · have i0 := cf_in_nI (show 4 * k < Ls by omega) (show Ls < 2 ^ 31 by omega)
      have i1 := cf_in_nI (show 4 * k + 1 < Ls by omega) (show Ls < 2 ^ 31 by omega)
      have i2 := cf_in_nI (show 4 * k + 2 < Ls by omega) (show Ls < 2 ^ 31 by omega)
      have i3 := cf_in_nI (show 4 * k + 3 < Ls by omega) (show Ls < 2 ^ 31 by omega)
      have n0 := nI_clamp (show 4 * k < 2 ^ 31 by omega)
      have n1 := nI_clamp (show 4 * k + 1 < 2 ^ 31 by omega)
      have n2 := nI_clamp (show 4 * k + 2 < 2 ^ 31 by omega)
      have n3 := nI_clamp (show 4 * k + 3 < 2 ^ 31 by omega)
      have a1 : nI (4 * k) + 1 = nI (4 * k + 1) := nI_1 _
      have a2 : nI (4 * k) + 2 = nI (4 * k + 2) := by rw [show (2 : Int32) = nI 2 by decide +kernel, nI_add]
      have a3 : nI (4 * k) + 3 = nI (4 * k + 3) := by rw [show (3 : Int32) = nI 3 by decide +kernel, nI_add]
      have a4 : nI (4 * k) + 4 = nI (4 * (k + 1)) := by rw [show (4 : Int32) = nI 4 by decide +kernel, nI_add]; congr 1
      obtain ⟨q, hq, hop⟩ := cf_and31 (xs (4 * k))
      have next := fun w2 (h : cf_Inv w2 (k + 1)) => ih (k + 1) w2 (by omega) h
      refine r_law_18.mpr ?_
      rcases (show q = 0 ∨ q = 1 ∨ q = 2 ∨ q = 3 ∨ q = 4 ∨ q = 5 ∨ q = 6 ∨ q = 7 ∨ q = 8 ∨ q = 9 ∨ q = 10 ∨ q = 11 ∨ q = 12 ∨ q = 13 ∨ q = 14 ∨ q = 15 ∨ q = 16 ∨ q = 17 ∨ q = 18 ∨ q = 19 ∨ q = 20 ∨ q = 21 ∨ q = 22 ∨ q = 23 ∨ q = 24 ∨ q = 25 ∨ q = 26 ∨ q = 27 ∨ q = 28 ∨ q = 29 ∨ q = 30 ∨ q = 31 by omega) with rfl | rfl | rfl | rfl | rfl | rfl | rfl | rfl | rfl | rfl | rfl | rfl | rfl | rfl | rfl | rfl | rfl | rfl | rfl | rfl | rfl | rfl | rfl | rfl | rfl | rfl | rfl | rfl | rfl | rfl | rfl | rfl
      · rw [show nI 0 = 0 by decide +kernel] at hop
        obtain ⟨x, w1, w2, hC, hP, hI2⟩ := tw_commit (a := xs (4 * k + 1)) (b := xs (4 * k + 2)) hk5 hI
        simp only [r_law_16, r_law_17, r_law_19, r_law_20, r_law_21, r_law_22, r_law_23, r_law_26, r_law_27, r_law_28, r_law_29, r_law_31, r_law_120, r_law_121, r_law_122, r_law_123, r_law_124, r_law_125, r_law_126, r_law_127, r_law_128, r_law_129, r_law_130, r_law_134, r_law_135, r_law_136, r_law_137, r_law_138, r_law_139, r_law_140, r_law_141, r_law_142, r_law_143, r_law_144, r_law_148, r_law_151, r_law_152, r_law_153, r_law_494, r_law_497, r_law_500, r_law_501, r_law_32_0, c_law_131 hC, c_law_145 hP, cf_lim hL hk5, h1, ↓reduceIte, i0, i1, i2, i3, n0, n1, n2, n3, a1, a2, a3, a4, true_and, hop]
        exact next w2 hI2
      · rw [show nI 1 = 1 by decide +kernel] at hop
        obtain ⟨x, w1, w2, hC, hP, hI2⟩ := tw_write (c := xs (4 * k + 1)) (l := xs (4 * k + 2)) (cd := xs (4 * k + 3)) hk5 hI
        simp only [r_law_16, r_law_17, r_law_19, r_law_20, r_law_21, r_law_22, r_law_23, r_law_26, r_law_27, r_law_28, r_law_29, r_law_31, r_law_153, r_law_154, r_law_155, r_law_156, r_law_157, r_law_158, r_law_159, r_law_160, r_law_161, r_law_162, r_law_163, r_law_164, r_law_165, r_law_166, r_law_167, r_law_168, r_law_172, r_law_173, r_law_174, r_law_175, r_law_176, r_law_177, r_law_178, r_law_179, r_law_180, r_law_181, r_law_182, r_law_183, r_law_184, r_law_185, r_law_186, r_law_187, r_law_191, r_law_194, r_law_195, r_law_196, r_law_494, r_law_497, r_law_500, r_law_501, r_law_32_1, c_law_169 hC, c_law_188 hP, cf_lim hL hk5, h1, ↓reduceIte, i0, i1, i2, i3, n0, n1, n2, n3, a1, a2, a3, a4, true_and, hop]
        exact next w2 hI2
      · rw [show nI 2 = 2 by decide +kernel] at hop
        obtain ⟨x, w1, w2, hC, hP, hI2⟩ := tw_line (c := xs (4 * k + 1)) (l := xs (4 * k + 2)) hk5 hI
        simp only [r_law_16, r_law_17, r_law_19, r_law_20, r_law_21, r_law_22, r_law_23, r_law_26, r_law_27, r_law_28, r_law_29, r_law_31, r_law_196, r_law_197, r_law_198, r_law_199, r_law_200, r_law_201, r_law_202, r_law_203, r_law_204, r_law_205, r_law_206, r_law_210, r_law_211, r_law_212, r_law_213, r_law_214, r_law_215, r_law_216, r_law_217, r_law_218, r_law_219, r_law_220, r_law_224, r_law_227, r_law_228, r_law_229, r_law_494, r_law_497, r_law_500, r_law_501, r_law_32_2, c_law_207 hC, c_law_221 hP, cf_lim hL hk5, h1, ↓reduceIte, i0, i1, i2, i3, n0, n1, n2, n3, a1, a2, a3, a4, true_and, hop]
        exact next w2 hI2
      · rw [show nI 3 = 3 by decide +kernel] at hop
        obtain ⟨x, w1, w2, hC, hP, hI2⟩ := tw_verdict (c := xs (4 * k + 1)) (x := xs (4 * k + 2)) hk5 hI
        simp only [r_law_16, r_law_17, r_law_19, r_law_20, r_law_21, r_law_22, r_law_23, r_law_26, r_law_27, r_law_28, r_law_29, r_law_31, r_law_229, r_law_230, r_law_231, r_law_232, r_law_233, r_law_234, r_law_235, r_law_236, r_law_237, r_law_238, r_law_239, r_law_243, r_law_244, r_law_245, r_law_246, r_law_247, r_law_248, r_law_249, r_law_250, r_law_251, r_law_252, r_law_253, r_law_257, r_law_260, r_law_261, r_law_262, r_law_494, r_law_497, r_law_500, r_law_501, r_law_32_3, c_law_240 hC, c_law_254 hP, cf_lim hL hk5, h1, ↓reduceIte, i0, i1, i2, i3, n0, n1, n2, n3, a1, a2, a3, a4, true_and, hop]
        exact next w2 hI2
      · rw [show nI 4 = 4 by decide +kernel] at hop
        obtain ⟨x, w1, w2, hC, hP, hI2⟩ := tw_begin (g := xs (4 * k + 1)) (b := xs (4 * k + 2)) (x := xs (4 * k + 3)) hk5 hI
        simp only [r_law_16, r_law_17, r_law_19, r_law_20, r_law_21, r_law_22, r_law_23, r_law_26, r_law_27, r_law_28, r_law_29, r_law_31, r_law_262, r_law_263, r_law_264, r_law_265, r_law_266, r_law_267, r_law_268, r_law_269, r_law_270, r_law_271, r_law_272, r_law_273, r_law_274, r_law_275, r_law_276, r_law_277, r_law_281, r_law_282, r_law_283, r_law_284, r_law_285, r_law_286, r_law_287, r_law_288, r_law_289, r_law_290, r_law_291, r_law_292, r_law_293, r_law_294, r_law_295, r_law_296, r_law_300, r_law_303, r_law_304, r_law_305, r_law_494, r_law_497, r_law_500, r_law_501, r_law_32_4, c_law_278 hC, c_law_297 hP, cf_lim hL hk5, h1, ↓reduceIte, i0, i1, i2, i3, n0, n1, n2, n3, a1, a2, a3, a4, true_and, hop]
        exact next w2 hI2
      · rw [show nI 5 = 5 by decide +kernel] at hop
        obtain ⟨x, w1, w2, hC, hP, hI2⟩ := tw_end hk5 hI
        simp only [r_law_16, r_law_17, r_law_19, r_law_20, r_law_21, r_law_22, r_law_23, r_law_26, r_law_27, r_law_28, r_law_29, r_law_31, r_law_305, r_law_309, r_law_313, r_law_316, r_law_317, r_law_318, r_law_494, r_law_497, r_law_500, r_law_501, r_law_32_5, c_law_306 hC, c_law_310 hP, cf_lim hL hk5, h1, ↓reduceIte, i0, i1, i2, i3, n0, n1, n2, n3, a1, a2, a3, a4, true_and, hop]
        exact next w2 hI2
      · rw [show nI 6 = 6 by decide +kernel] at hop
        obtain ⟨x, w1, w2, hC, hP, hI2⟩ := tw_next hk5 hI
        simp only [r_law_16, r_law_17, r_law_19, r_law_20, r_law_21, r_law_22, r_law_23, r_law_26, r_law_27, r_law_28, r_law_29, r_law_31, r_law_318, r_law_322, r_law_326, r_law_329, r_law_330, r_law_331, r_law_494, r_law_497, r_law_500, r_law_501, r_law_32_6, c_law_319 hC, c_law_323 hP, cf_lim hL hk5, h1, ↓reduceIte, i0, i1, i2, i3, n0, n1, n2, n3, a1, a2, a3, a4, true_and, hop]
        exact next w2 hI2
      · rw [show nI 7 = 7 by decide +kernel] at hop
        obtain ⟨x, w1, w2, hC, hP, hI2⟩ := tw_start hk5 hI
        simp only [r_law_16, r_law_17, r_law_19, r_law_20, r_law_21, r_law_22, r_law_23, r_law_26, r_law_27, r_law_28, r_law_29, r_law_31, r_law_331, r_law_335, r_law_339, r_law_342, r_law_343, r_law_344, r_law_494, r_law_497, r_law_500, r_law_501, r_law_32_7, c_law_332 hC, c_law_336 hP, cf_lim hL hk5, h1, ↓reduceIte, i0, i1, i2, i3, n0, n1, n2, n3, a1, a2, a3, a4, true_and, hop]
        exact next w2 hI2
      · rw [show nI 8 = 8 by decide +kernel] at hop
        obtain ⟨x, w1, w2, hC, hP, hI2⟩ := tw_finish hk5 hI
        simp only [r_law_16, r_law_17, r_law_19, r_law_20, r_law_21, r_law_22, r_law_23, r_law_26, r_law_27, r_law_28, r_law_29, r_law_31, r_law_344, r_law_348, r_law_352, r_law_355, r_law_356, r_law_357, r_law_494, r_law_497, r_law_500, r_law_501, r_law_32_8, c_law_345 hC, c_law_349 hP, cf_lim hL hk5, h1, ↓reduceIte, i0, i1, i2, i3, n0, n1, n2, n3, a1, a2, a3, a4, true_and, hop]
        exact next w2 hI2
      · rw [show nI 9 = 9 by decide +kernel] at hop
        obtain ⟨x, w1, w2, hC, hP, hI2⟩ := tw_crash hk5 hI
        simp only [r_law_16, r_law_17, r_law_19, r_law_20, r_law_21, r_law_22, r_law_23, r_law_26, r_law_27, r_law_28, r_law_29, r_law_31, r_law_357, r_law_361, r_law_365, r_law_368, r_law_369, r_law_370, r_law_494, r_law_497, r_law_500, r_law_501, r_law_32_9, c_law_358 hC, c_law_362 hP, cf_lim hL hk5, h1, ↓reduceIte, i0, i1, i2, i3, n0, n1, n2, n3, a1, a2, a3, a4, true_and, hop]
        exact next w2 hI2
      · rw [show nI 10 = 10 by decide +kernel] at hop
        obtain ⟨x, w1, w2, hC, hP, hI2⟩ := tw_journal hk5 hI
        simp only [r_law_16, r_law_17, r_law_19, r_law_20, r_law_21, r_law_22, r_law_23, r_law_26, r_law_27, r_law_28, r_law_29, r_law_31, r_law_370, r_law_374, r_law_378, r_law_381, r_law_382, r_law_383, r_law_494, r_law_497, r_law_500, r_law_501, r_law_32_10, c_law_371 hC, c_law_375 hP, cf_lim hL hk5, h1, ↓reduceIte, i0, i1, i2, i3, n0, n1, n2, n3, a1, a2, a3, a4, true_and, hop]
        exact next w2 hI2
      · rw [show nI 11 = 11 by decide +kernel] at hop
        obtain ⟨x, w1, w2, hC, hP, hI2⟩ := tw_entry (k := xs (4 * k + 1)) hk5 hI
        simp only [r_law_16, r_law_17, r_law_19, r_law_20, r_law_21, r_law_22, r_law_23, r_law_26, r_law_27, r_law_28, r_law_29, r_law_31, r_law_383, r_law_384, r_law_385, r_law_386, r_law_387, r_law_388, r_law_392, r_law_393, r_law_394, r_law_395, r_law_396, r_law_397, r_law_401, r_law_404, r_law_405, r_law_406, r_law_494, r_law_497, r_law_500, r_law_501, r_law_32_11, c_law_389 hC, c_law_398 hP, cf_lim hL hk5, h1, ↓reduceIte, i0, i1, i2, i3, n0, n1, n2, n3, a1, a2, a3, a4, true_and, hop]
        exact next w2 hI2
      · rw [show nI 12 = 12 by decide +kernel] at hop
        obtain ⟨x, w1, w2, hC, hP, hI2⟩ := tw_state hk5 hI
        simp only [r_law_16, r_law_17, r_law_19, r_law_20, r_law_21, r_law_22, r_law_23, r_law_26, r_law_27, r_law_28, r_law_29, r_law_31, r_law_406, r_law_410, r_law_414, r_law_417, r_law_418, r_law_419, r_law_494, r_law_497, r_law_500, r_law_501, r_law_32_12, c_law_407 hC, c_law_411 hP, cf_lim hL hk5, h1, ↓reduceIte, i0, i1, i2, i3, n0, n1, n2, n3, a1, a2, a3, a4, true_and, hop]
        exact next w2 hI2
      · rw [show nI 13 = 13 by decide +kernel] at hop
        obtain ⟨x, w1, w2, hC, hP, hI2⟩ := tw_suspects hk5 hI
        simp only [r_law_16, r_law_17, r_law_19, r_law_20, r_law_21, r_law_22, r_law_23, r_law_26, r_law_27, r_law_28, r_law_29, r_law_31, r_law_419, r_law_423, r_law_427, r_law_430, r_law_431, r_law_432, r_law_494, r_law_497, r_law_500, r_law_501, r_law_32_13, c_law_420 hC, c_law_424 hP, cf_lim hL hk5, h1, ↓reduceIte, i0, i1, i2, i3, n0, n1, n2, n3, a1, a2, a3, a4, true_and, hop]
        exact next w2 hI2
      · rw [show nI 14 = 14 by decide +kernel] at hop
        obtain ⟨x, w1, w2, hC, hP, hI2⟩ := tw_weight (c := xs (4 * k + 1)) hk5 hI
        simp only [r_law_16, r_law_17, r_law_19, r_law_20, r_law_21, r_law_22, r_law_23, r_law_26, r_law_27, r_law_28, r_law_29, r_law_31, r_law_432, r_law_433, r_law_434, r_law_435, r_law_436, r_law_437, r_law_441, r_law_442, r_law_443, r_law_444, r_law_445, r_law_446, r_law_450, r_law_453, r_law_454, r_law_455, r_law_494, r_law_497, r_law_500, r_law_501, r_law_32_14, c_law_438 hC, c_law_447 hP, cf_lim hL hk5, h1, ↓reduceIte, i0, i1, i2, i3, n0, n1, n2, n3, a1, a2, a3, a4, true_and, hop]
        exact next w2 hI2
      · rw [show nI 15 = 15 by decide +kernel] at hop
        obtain ⟨x, w1, w2, hC, hP, hI2⟩ := tw_culprit hk5 hI
        simp only [r_law_16, r_law_17, r_law_19, r_law_20, r_law_21, r_law_22, r_law_23, r_law_26, r_law_27, r_law_28, r_law_29, r_law_31, r_law_455, r_law_459, r_law_463, r_law_466, r_law_467, r_law_468, r_law_494, r_law_497, r_law_500, r_law_501, r_law_32_15, c_law_456 hC, c_law_460 hP, cf_lim hL hk5, h1, ↓reduceIte, i0, i1, i2, i3, n0, n1, n2, n3, a1, a2, a3, a4, true_and, hop]
        exact next w2 hI2
      · rw [show nI 16 = 16 by decide +kernel] at hop
        obtain ⟨x, w1, w2, hC, hP, hI2⟩ := tw_reduced hk5 hI
        simp only [r_law_16, r_law_17, r_law_19, r_law_20, r_law_21, r_law_22, r_law_23, r_law_26, r_law_27, r_law_28, r_law_29, r_law_31, r_law_468, r_law_472, r_law_476, r_law_479, r_law_480, r_law_481, r_law_494, r_law_497, r_law_500, r_law_501, r_law_32_16, c_law_469 hC, c_law_473 hP, cf_lim hL hk5, h1, ↓reduceIte, i0, i1, i2, i3, n0, n1, n2, n3, a1, a2, a3, a4, true_and, hop]
        exact next w2 hI2
      · rw [show nI 17 = 17 by decide +kernel] at hop
        obtain ⟨x, w1, w2, hC, hP, hI2⟩ := tw_started hk5 hI
        simp only [r_law_16, r_law_17, r_law_19, r_law_20, r_law_21, r_law_22, r_law_23, r_law_26, r_law_27, r_law_28, r_law_29, r_law_31, r_law_481, r_law_485, r_law_489, r_law_492, r_law_493, r_law_494, r_law_497, r_law_500, r_law_501, r_law_32_17, c_law_482 hC, c_law_486 hP, cf_lim hL hk5, h1, ↓reduceIte, i0, i1, i2, i3, n0, n1, n2, n3, a1, a2, a3, a4, true_and, hop]
        exact next w2 hI2
      · rw [show nI 18 = 18 by decide +kernel] at hop
        simp only [r_law_16, r_law_17, r_law_19, r_law_20, r_law_21, r_law_22, r_law_23, r_law_26, r_law_27, r_law_28, r_law_29, r_law_31, r_law_494, r_law_497, r_law_500, r_law_501, r_law_32_18, cf_lim hL hk5, h1, ↓reduceIte, i0, i1, i2, i3, n0, n1, n2, n3, a1, a2, a3, a4, true_and, hop]
        exact next w (cf_Inv_up hI)
      · rw [show nI 19 = 19 by decide +kernel] at hop
        simp only [r_law_16, r_law_17, r_law_19, r_law_20, r_law_21, r_law_22, r_law_23, r_law_26, r_law_27, r_law_28, r_law_29, r_law_31, r_law_494, r_law_497, r_law_500, r_law_501, r_law_32_19, cf_lim hL hk5, h1, ↓reduceIte, i0, i1, i2, i3, n0, n1, n2, n3, a1, a2, a3, a4, true_and, hop]
        exact next w (cf_Inv_up hI)
      · rw [show nI 20 = 20 by decide +kernel] at hop
        simp only [r_law_16, r_law_17, r_law_19, r_law_20, r_law_21, r_law_22, r_law_23, r_law_26, r_law_27, r_law_28, r_law_29, r_law_31, r_law_494, r_law_497, r_law_500, r_law_501, r_law_32_20, cf_lim hL hk5, h1, ↓reduceIte, i0, i1, i2, i3, n0, n1, n2, n3, a1, a2, a3, a4, true_and, hop]
        exact next w (cf_Inv_up hI)
      · rw [show nI 21 = 21 by decide +kernel] at hop
        simp only [r_law_16, r_law_17, r_law_19, r_law_20, r_law_21, r_law_22, r_law_23, r_law_26, r_law_27, r_law_28, r_law_29, r_law_31, r_law_494, r_law_497, r_law_500, r_law_501, r_law_32_21, cf_lim hL hk5, h1, ↓reduceIte, i0, i1, i2, i3, n0, n1, n2, n3, a1, a2, a3, a4, true_and, hop]
        exact next w (cf_Inv_up hI)
      · rw [show nI 22 = 22 by decide +kernel] at hop
        simp only [r_law_16, r_law_17, r_law_19, r_law_20, r_law_21, r_law_22, r_law_23, r_law_26, r_law_27, r_law_28, r_law_29, r_law_31, r_law_494, r_law_497, r_law_500, r_law_501, r_law_32_22, cf_lim hL hk5, h1, ↓reduceIte, i0, i1, i2, i3, n0, n1, n2, n3, a1, a2, a3, a4, true_and, hop]
        exact next w (cf_Inv_up hI)
      · rw [show nI 23 = 23 by decide +kernel] at hop
        simp only [r_law_16, r_law_17, r_law_19, r_law_20, r_law_21, r_law_22, r_law_23, r_law_26, r_law_27, r_law_28, r_law_29, r_law_31, r_law_494, r_law_497, r_law_500, r_law_501, r_law_32_23, cf_lim hL hk5, h1, ↓reduceIte, i0, i1, i2, i3, n0, n1, n2, n3, a1, a2, a3, a4, true_and, hop]
        exact next w (cf_Inv_up hI)
      · rw [show nI 24 = 24 by decide +kernel] at hop
        simp only [r_law_16, r_law_17, r_law_19, r_law_20, r_law_21, r_law_22, r_law_23, r_law_26, r_law_27, r_law_28, r_law_29, r_law_31, r_law_494, r_law_497, r_law_500, r_law_501, r_law_32_24, cf_lim hL hk5, h1, ↓reduceIte, i0, i1, i2, i3, n0, n1, n2, n3, a1, a2, a3, a4, true_and, hop]
        exact next w (cf_Inv_up hI)
      · rw [show nI 25 = 25 by decide +kernel] at hop
        simp only [r_law_16, r_law_17, r_law_19, r_law_20, r_law_21, r_law_22, r_law_23, r_law_26, r_law_27, r_law_28, r_law_29, r_law_31, r_law_494, r_law_497, r_law_500, r_law_501, r_law_32_25, cf_lim hL hk5, h1, ↓reduceIte, i0, i1, i2, i3, n0, n1, n2, n3, a1, a2, a3, a4, true_and, hop]
        exact next w (cf_Inv_up hI)
      · rw [show nI 26 = 26 by decide +kernel] at hop
        simp only [r_law_16, r_law_17, r_law_19, r_law_20, r_law_21, r_law_22, r_law_23, r_law_26, r_law_27, r_law_28, r_law_29, r_law_31, r_law_494, r_law_497, r_law_500, r_law_501, r_law_32_26, cf_lim hL hk5, h1, ↓reduceIte, i0, i1, i2, i3, n0, n1, n2, n3, a1, a2, a3, a4, true_and, hop]
        exact next w (cf_Inv_up hI)
      · rw [show nI 27 = 27 by decide +kernel] at hop
        simp only [r_law_16, r_law_17, r_law_19, r_law_20, r_law_21, r_law_22, r_law_23, r_law_26, r_law_27, r_law_28, r_law_29, r_law_31, r_law_494, r_law_497, r_law_500, r_law_501, r_law_32_27, cf_lim hL hk5, h1, ↓reduceIte, i0, i1, i2, i3, n0, n1, n2, n3, a1, a2, a3, a4, true_and, hop]
        exact next w (cf_Inv_up hI)
      · rw [show nI 28 = 28 by decide +kernel] at hop
        simp only [r_law_16, r_law_17, r_law_19, r_law_20, r_law_21, r_law_22, r_law_23, r_law_26, r_law_27, r_law_28, r_law_29, r_law_31, r_law_494, r_law_497, r_law_500, r_law_501, r_law_32_28, cf_lim hL hk5, h1, ↓reduceIte, i0, i1, i2, i3, n0, n1, n2, n3, a1, a2, a3, a4, true_and, hop]
        exact next w (cf_Inv_up hI)
      · rw [show nI 29 = 29 by decide +kernel] at hop
        simp only [r_law_16, r_law_17, r_law_19, r_law_20, r_law_21, r_law_22, r_law_23, r_law_26, r_law_27, r_law_28, r_law_29, r_law_31, r_law_494, r_law_497, r_law_500, r_law_501, r_law_32_29, cf_lim hL hk5, h1, ↓reduceIte, i0, i1, i2, i3, n0, n1, n2, n3, a1, a2, a3, a4, true_and, hop]
        exact next w (cf_Inv_up hI)
      · rw [show nI 30 = 30 by decide +kernel] at hop
        simp only [r_law_16, r_law_17, r_law_19, r_law_20, r_law_21, r_law_22, r_law_23, r_law_26, r_law_27, r_law_28, r_law_29, r_law_31, r_law_494, r_law_497, r_law_500, r_law_501, r_law_32_30, cf_lim hL hk5, h1, ↓reduceIte, i0, i1, i2, i3, n0, n1, n2, n3, a1, a2, a3, a4, true_and, hop]
        exact next w (cf_Inv_up hI)
      · rw [show nI 31 = 31 by decide +kernel] at hop
        simp only [r_law_16, r_law_17, r_law_19, r_law_20, r_law_21, r_law_22, r_law_23, r_law_26, r_law_27, r_law_28, r_law_29, r_law_31, r_law_494, r_law_497, r_law_500, r_law_501, r_law_32_31, cf_lim hL hk5, h1, ↓reduceIte, i0, i1, i2, i3, n0, n1, n2, n3, a1, a2, a3, a4, true_and, hop]
        exact next w (cf_Inv_up hI)
