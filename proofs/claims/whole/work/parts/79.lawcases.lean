/-! the law's calls, one row each -/
section
variable {X : am_X} {S : am_Sh} {M M' : am_Me} {s : sgm}
theorem lc_0 {ar i : Nat} (hb : BB s M) (hi : i + 6 ≤ X.1) (hX : X.1 < 2 ^ 30) : ∃ s' M', am_e X 0 176 [some (.retAddr ar), some (.ref (0 : Nat)), some (.ref (59 : Nat)), some (.int (nI i))] [] kS M = am_e X 0 1327 [some (.retAddr ar), some (.ref (0 : Nat)), some (.ref (59 : Nat)), some (.int (nI i))] [] kS M' ∧ BB s' M' := by
  obtain ⟨hx, hm, ho⟩ := hb
  have n1 : nI i + 1 = nI (i + 1) := nI_1 _
  have c1 : (nI (i + 1)).toNatClampNeg = i + 1 := nI_clamp (by omega)
  have z1 := nlt0 (n := i + 1) (by omega)
  have y1 := gsc (i := i + 1) (n := X.1) (by omega)
  obtain ⟨M1, r1, j1, o1⟩ := x_band (X := X) hx ho (X.2 (i + 1))
  obtain ⟨M2, r2, j2, o2⟩ := m_band (X := X) (hm.of o1 (fun a k q => pX_R q)) ho (X.2 (i + 1))
  refine ⟨_, M2, ?_, bb_st j1 j2 o2 (sp_band_ok ho (X.2 (i + 1)))⟩
  simp only [e0_176, e0_177, e0_178, e0_179, e0_180, e0_181, e0_182, e0_185, e0_186, e0_187, e0_188, e0_189, e0_190, e0_191, e0_194, e0_197, e0_198, n1, c1, z1, y1, s0, s59, r1, r2, lc_eq, am_bv_s, am_bw_s, eq_self, true_or, or_true, am_b0, am_b1, am_em, if_true, if_false, true_and, and_true, false_and, and_false, not_true_eq_false, not_false_eq_true, false_or, or_false, Bool.false_eq_true]
theorem lc_1 {ar i : Nat} (hb : BB s M) (hi : i + 6 ≤ X.1) (hX : X.1 < 2 ^ 30) : ∃ s' M', am_e X 0 199 [some (.retAddr ar), some (.ref (0 : Nat)), some (.ref (59 : Nat)), some (.int (nI i))] [] kS M = am_e X 0 1327 [some (.retAddr ar), some (.ref (0 : Nat)), some (.ref (59 : Nat)), some (.int (nI i))] [] kS M' ∧ BB s' M' := by
  obtain ⟨hx, hm, ho⟩ := hb
  obtain ⟨M1, r1, j1, o1⟩ := x_book (X := X) hx ho 
  obtain ⟨M2, r2, j2, o2⟩ := m_book (X := X) (hm.of o1 (fun a k q => pX_R q)) ho 
  refine ⟨_, M2, ?_, bb_st j1 j2 o2 (sp_book_ok ho )⟩
  simp only [e0_199, e0_200, e0_203, e0_204, e0_207, e0_210, e0_211, s0, s59, r1, r2, lc_eq, am_bv_s, am_bw_s, eq_self, true_or, or_true, am_b0, am_b1, am_em, if_true, if_false, true_and, and_true, false_and, and_false, not_true_eq_false, not_false_eq_true, false_or, or_false, Bool.false_eq_true]
theorem lc_2 {ar i : Nat} (hb : BB s M) (hi : i + 6 ≤ X.1) (hX : X.1 < 2 ^ 30) : ∃ s' M', am_e X 0 212 [some (.retAddr ar), some (.ref (0 : Nat)), some (.ref (59 : Nat)), some (.int (nI i))] [] kS M = am_e X 0 1327 [some (.retAddr ar), some (.ref (0 : Nat)), some (.ref (59 : Nat)), some (.int (nI i))] [] kS M' ∧ BB s' M' := by
  obtain ⟨hx, hm, ho⟩ := hb
  have n1 : nI i + 1 = nI (i + 1) := nI_1 _
  have c1 : (nI (i + 1)).toNatClampNeg = i + 1 := nI_clamp (by omega)
  have z1 := nlt0 (n := i + 1) (by omega)
  have y1 := gsc (i := i + 1) (n := X.1) (by omega)
  have n2 : nI i + 2 = nI (i + 2) := nI_add i 2
  have c2 : (nI (i + 2)).toNatClampNeg = i + 2 := nI_clamp (by omega)
  have z2 := nlt0 (n := i + 2) (by omega)
  have y2 := gsc (i := i + 2) (n := X.1) (by omega)
  have n3 : nI i + 3 = nI (i + 3) := nI_add i 3
  have c3 : (nI (i + 3)).toNatClampNeg = i + 3 := nI_clamp (by omega)
  have z3 := nlt0 (n := i + 3) (by omega)
  have y3 := gsc (i := i + 3) (n := X.1) (by omega)
  obtain ⟨M1, r1, j1, o1⟩ := x_run (X := X) hx ho (X.2 (i + 1)) (X.2 (i + 2)) (X.2 (i + 3))
  obtain ⟨M2, r2, j2, o2⟩ := m_run (X := X) (hm.of o1 (fun a k q => pX_R q)) ho (X.2 (i + 1)) (X.2 (i + 2)) (X.2 (i + 3))
  refine ⟨_, M2, ?_, bb_st j1 j2 o2 (sp_run_ok ho (X.2 (i + 1)) (X.2 (i + 2)) (X.2 (i + 3)))⟩
  simp only [e0_212, e0_213, e0_214, e0_215, e0_216, e0_217, e0_218, e0_219, e0_220, e0_221, e0_222, e0_223, e0_224, e0_225, e0_226, e0_227, e0_228, e0_231, e0_232, e0_233, e0_234, e0_235, e0_236, e0_237, e0_238, e0_239, e0_240, e0_241, e0_242, e0_243, e0_244, e0_245, e0_246, e0_247, e0_250, e0_253, e0_254, n1, c1, z1, y1, n2, c2, z2, y2, n3, c3, z3, y3, s0, s59, r1, r2, lc_eq, am_bv_s, am_bw_s, eq_self, true_or, or_true, am_b0, am_b1, am_em, if_true, if_false, true_and, and_true, false_and, and_false, not_true_eq_false, not_false_eq_true, false_or, or_false, Bool.false_eq_true]
theorem lc_3 {ar i : Nat} (hb : BB s M) (hi : i + 6 ≤ X.1) (hX : X.1 < 2 ^ 30) : ∃ s' M', am_e X 0 255 [some (.retAddr ar), some (.ref (0 : Nat)), some (.ref (59 : Nat)), some (.int (nI i))] [] kS M = am_e X 0 1327 [some (.retAddr ar), some (.ref (0 : Nat)), some (.ref (59 : Nat)), some (.int (nI i))] [] kS M' ∧ BB s' M' := by
  obtain ⟨hx, hm, ho⟩ := hb
  have n1 : nI i + 1 = nI (i + 1) := nI_1 _
  have c1 : (nI (i + 1)).toNatClampNeg = i + 1 := nI_clamp (by omega)
  have z1 := nlt0 (n := i + 1) (by omega)
  have y1 := gsc (i := i + 1) (n := X.1) (by omega)
  obtain ⟨M1, r1, j1, o1⟩ := x_type (X := X) hx ho (X.2 (i + 1))
  obtain ⟨M2, r2, j2, o2⟩ := m_type (X := X) (hm.of o1 (fun a k q => pX_R q)) ho (X.2 (i + 1))
  refine ⟨_, M2, ?_, bb_st j1 j2 o2 (sp_type_ok ho (X.2 (i + 1)))⟩
  simp only [e0_255, e0_256, e0_257, e0_258, e0_259, e0_260, e0_261, e0_264, e0_265, e0_266, e0_267, e0_268, e0_269, e0_270, e0_273, e0_276, e0_277, n1, c1, z1, y1, s0, s59, r1, r2, lc_eq, am_bv_s, am_bw_s, eq_self, true_or, or_true, am_b0, am_b1, am_em, if_true, if_false, true_and, and_true, false_and, and_false, not_true_eq_false, not_false_eq_true, false_or, or_false, Bool.false_eq_true]
theorem lc_4 {ar i : Nat} (hb : BB s M) (hi : i + 6 ≤ X.1) (hX : X.1 < 2 ^ 30) : ∃ s' M', am_e X 0 278 [some (.retAddr ar), some (.ref (0 : Nat)), some (.ref (59 : Nat)), some (.int (nI i))] [] kS M = am_e X 0 1327 [some (.retAddr ar), some (.ref (0 : Nat)), some (.ref (59 : Nat)), some (.int (nI i))] [] kS M' ∧ BB s' M' := by
  obtain ⟨hx, hm, ho⟩ := hb
  obtain ⟨M1, r1, j1, o1⟩ := x_wipe (X := X) hx ho 
  obtain ⟨M2, r2, j2, o2⟩ := m_wipe (X := X) (hm.of o1 (fun a k q => pX_R q)) ho 
  refine ⟨_, M2, ?_, bb_st j1 j2 o2 (sp_wipe_ok ho )⟩
  simp only [e0_278, e0_279, e0_282, e0_283, e0_286, e0_289, e0_290, s0, s59, r1, r2, lc_eq, am_bv_s, am_bw_s, eq_self, true_or, or_true, am_b0, am_b1, am_em, if_true, if_false, true_and, and_true, false_and, and_false, not_true_eq_false, not_false_eq_true, false_or, or_false, Bool.false_eq_true]
theorem lc_5 {ar i : Nat} (hb : BB s M) (hi : i + 6 ≤ X.1) (hX : X.1 < 2 ^ 30) : ∃ s' M', am_e X 0 291 [some (.retAddr ar), some (.ref (0 : Nat)), some (.ref (59 : Nat)), some (.int (nI i))] [] kS M = am_e X 0 1327 [some (.retAddr ar), some (.ref (0 : Nat)), some (.ref (59 : Nat)), some (.int (nI i))] [] kS M' ∧ BB s' M' := by
  obtain ⟨hx, hm, ho⟩ := hb
  have r1 := x_fault (X := X) hx 
  obtain ⟨M2, r2, j2, o2⟩ := m_fault (X := X) hm ho 
  refine ⟨_, M2, ?_, bb_st hx j2 o2 ho⟩
  simp only [e0_291, e0_292, e0_295, e0_296, e0_299, e0_302, e0_303, s0, s59, r1, r2, lc_eq, am_bv_s, am_bw_s, eq_self, true_or, or_true, am_b0, am_b1, am_em, if_true, if_false, true_and, and_true, false_and, and_false, not_true_eq_false, not_false_eq_true, false_or, or_false, Bool.false_eq_true]
theorem lc_6 {ar i : Nat} (hb : BB s M) (hi : i + 6 ≤ X.1) (hX : X.1 < 2 ^ 30) : ∃ s' M', am_e X 0 304 [some (.retAddr ar), some (.ref (0 : Nat)), some (.ref (59 : Nat)), some (.int (nI i))] [] kS M = am_e X 0 1327 [some (.retAddr ar), some (.ref (0 : Nat)), some (.ref (59 : Nat)), some (.int (nI i))] [] kS M' ∧ BB s' M' := by
  obtain ⟨hx, hm, ho⟩ := hb
  have n1 : nI i + 1 = nI (i + 1) := nI_1 _
  have c1 : (nI (i + 1)).toNatClampNeg = i + 1 := nI_clamp (by omega)
  have z1 := nlt0 (n := i + 1) (by omega)
  have y1 := gsc (i := i + 1) (n := X.1) (by omega)
  have r1 := x_word (X := X) hx ho (X.2 (i + 1))
  obtain ⟨M2, r2, j2, o2⟩ := m_word (X := X) hm ho (X.2 (i + 1))
  refine ⟨_, M2, ?_, bb_st hx j2 o2 ho⟩
  simp only [e0_304, e0_305, e0_306, e0_307, e0_308, e0_309, e0_310, e0_313, e0_314, e0_315, e0_316, e0_317, e0_318, e0_319, e0_322, e0_325, e0_326, n1, c1, z1, y1, s0, s59, r1, r2, lc_eq, am_bv_s, am_bw_s, eq_self, true_or, or_true, am_b0, am_b1, am_em, if_true, if_false, true_and, and_true, false_and, and_false, not_true_eq_false, not_false_eq_true, false_or, or_false, Bool.false_eq_true]
theorem lc_7 {ar i : Nat} (hb : BB s M) (hi : i + 6 ≤ X.1) (hX : X.1 < 2 ^ 30) : ∃ s' M', am_e X 0 327 [some (.retAddr ar), some (.ref (0 : Nat)), some (.ref (59 : Nat)), some (.int (nI i))] [] kS M = am_e X 0 1327 [some (.retAddr ar), some (.ref (0 : Nat)), some (.ref (59 : Nat)), some (.int (nI i))] [] kS M' ∧ BB s' M' := by
  obtain ⟨hx, hm, ho⟩ := hb
  have n1 : nI i + 1 = nI (i + 1) := nI_1 _
  have c1 : (nI (i + 1)).toNatClampNeg = i + 1 := nI_clamp (by omega)
  have z1 := nlt0 (n := i + 1) (by omega)
  have y1 := gsc (i := i + 1) (n := X.1) (by omega)
  have n2 : nI i + 2 = nI (i + 2) := nI_add i 2
  have c2 : (nI (i + 2)).toNatClampNeg = i + 2 := nI_clamp (by omega)
  have z2 := nlt0 (n := i + 2) (by omega)
  have y2 := gsc (i := i + 2) (n := X.1) (by omega)
  have n3 : nI i + 3 = nI (i + 3) := nI_add i 3
  have c3 : (nI (i + 3)).toNatClampNeg = i + 3 := nI_clamp (by omega)
  have z3 := nlt0 (n := i + 3) (by omega)
  have y3 := gsc (i := i + 3) (n := X.1) (by omega)
  have n4 : nI i + 4 = nI (i + 4) := nI_add i 4
  have c4 : (nI (i + 4)).toNatClampNeg = i + 4 := nI_clamp (by omega)
  have z4 := nlt0 (n := i + 4) (by omega)
  have y4 := gsc (i := i + 4) (n := X.1) (by omega)
  obtain ⟨M1, r1, j1, o1⟩ := x_answer (X := X) hx ho (X.2 (i + 1)) (X.2 (i + 2)) (X.2 (i + 3)) (X.2 (i + 4))
  obtain ⟨M2, r2, j2, o2⟩ := m_answer (X := X) (hm.of o1 (fun a k q => pX_R q)) ho (X.2 (i + 1)) (X.2 (i + 2)) (X.2 (i + 3)) (X.2 (i + 4))
  refine ⟨_, M2, ?_, bb_st j1 j2 o2 (sp_ans_ok ho (X.2 (i + 1)) (X.2 (i + 2)) (X.2 (i + 3)) (X.2 (i + 4)))⟩
  simp only [e0_327, e0_328, e0_329, e0_330, e0_331, e0_332, e0_333, e0_334, e0_335, e0_336, e0_337, e0_338, e0_339, e0_340, e0_341, e0_342, e0_343, e0_344, e0_345, e0_346, e0_347, e0_348, e0_351, e0_352, e0_353, e0_354, e0_355, e0_356, e0_357, e0_358, e0_359, e0_360, e0_361, e0_362, e0_363, e0_364, e0_365, e0_366, e0_367, e0_368, e0_369, e0_370, e0_371, e0_372, e0_375, e0_378, e0_379, n1, c1, z1, y1, n2, c2, z2, y2, n3, c3, z3, y3, n4, c4, z4, y4, s0, s59, r1, r2, lc_eq, am_bv_s, am_bw_s, eq_self, true_or, or_true, am_b0, am_b1, am_em, if_true, if_false, true_and, and_true, false_and, and_false, not_true_eq_false, not_false_eq_true, false_or, or_false, Bool.false_eq_true]
theorem lc_8 {ar i : Nat} (hb : BB s M) (hi : i + 6 ≤ X.1) (hX : X.1 < 2 ^ 30) : ∃ s' M', am_e X 0 380 [some (.retAddr ar), some (.ref (0 : Nat)), some (.ref (59 : Nat)), some (.int (nI i))] [] kS M = am_e X 0 1327 [some (.retAddr ar), some (.ref (0 : Nat)), some (.ref (59 : Nat)), some (.int (nI i))] [] kS M' ∧ BB s' M' := by
  obtain ⟨hx, hm, ho⟩ := hb
  have n1 : nI i + 1 = nI (i + 1) := nI_1 _
  have c1 : (nI (i + 1)).toNatClampNeg = i + 1 := nI_clamp (by omega)
  have z1 := nlt0 (n := i + 1) (by omega)
  have y1 := gsc (i := i + 1) (n := X.1) (by omega)
  have n2 : nI i + 2 = nI (i + 2) := nI_add i 2
  have c2 : (nI (i + 2)).toNatClampNeg = i + 2 := nI_clamp (by omega)
  have z2 := nlt0 (n := i + 2) (by omega)
  have y2 := gsc (i := i + 2) (n := X.1) (by omega)
  have n3 : nI i + 3 = nI (i + 3) := nI_add i 3
  have c3 : (nI (i + 3)).toNatClampNeg = i + 3 := nI_clamp (by omega)
  have z3 := nlt0 (n := i + 3) (by omega)
  have y3 := gsc (i := i + 3) (n := X.1) (by omega)
  obtain ⟨M1, r1, j1, o1⟩ := x_read (X := X) hx ho (X.2 (i + 1)) (X.2 (i + 2)) (X.2 (i + 3))
  obtain ⟨M2, r2, j2, o2⟩ := m_read (X := X) (hm.of o1 (fun a k q => pX_R q)) ho (X.2 (i + 1)) (X.2 (i + 2)) (X.2 (i + 3))
  refine ⟨_, M2, ?_, bb_st j1 j2 o2 (sp_read_ok ho (X.2 (i + 1)) (X.2 (i + 2)) (X.2 (i + 3)))⟩
  simp only [e0_380, e0_381, e0_382, e0_383, e0_384, e0_385, e0_386, e0_387, e0_388, e0_389, e0_390, e0_391, e0_392, e0_393, e0_394, e0_395, e0_396, e0_399, e0_400, e0_401, e0_402, e0_403, e0_404, e0_405, e0_406, e0_407, e0_408, e0_409, e0_410, e0_411, e0_412, e0_413, e0_414, e0_415, e0_418, e0_421, e0_422, n1, c1, z1, y1, n2, c2, z2, y2, n3, c3, z3, y3, s0, s59, r1, r2, lc_eq, am_bv_s, am_bw_s, eq_self, true_or, or_true, am_b0, am_b1, am_em, if_true, if_false, true_and, and_true, false_and, and_false, not_true_eq_false, not_false_eq_true, false_or, or_false, Bool.false_eq_true]
theorem lc_9 {ar i : Nat} (hb : BB s M) (hi : i + 6 ≤ X.1) (hX : X.1 < 2 ^ 30) : ∃ s' M', am_e X 0 423 [some (.retAddr ar), some (.ref (0 : Nat)), some (.ref (59 : Nat)), some (.int (nI i))] [] kS M = am_e X 0 1327 [some (.retAddr ar), some (.ref (0 : Nat)), some (.ref (59 : Nat)), some (.int (nI i))] [] kS M' ∧ BB s' M' := by
  obtain ⟨hx, hm, ho⟩ := hb
  have n1 : nI i + 1 = nI (i + 1) := nI_1 _
  have c1 : (nI (i + 1)).toNatClampNeg = i + 1 := nI_clamp (by omega)
  have z1 := nlt0 (n := i + 1) (by omega)
  have y1 := gsc (i := i + 1) (n := X.1) (by omega)
  obtain ⟨M1, r1, j1, o1⟩ := x_asOf (X := X) hx ho (X.2 (i + 1))
  obtain ⟨M2, r2, j2, o2⟩ := m_asOf (X := X) (hm.of o1 (fun a k q => pX_R q)) ho (X.2 (i + 1))
  refine ⟨_, M2, ?_, bb_st j1 j2 o2 (sp_asOf_ok ho (X.2 (i + 1)))⟩
  simp only [e0_423, e0_424, e0_425, e0_426, e0_427, e0_428, e0_429, e0_432, e0_433, e0_434, e0_435, e0_436, e0_437, e0_438, e0_441, e0_444, e0_445, n1, c1, z1, y1, s0, s59, r1, r2, lc_eq, am_bv_s, am_bw_s, eq_self, true_or, or_true, am_b0, am_b1, am_em, if_true, if_false, true_and, and_true, false_and, and_false, not_true_eq_false, not_false_eq_true, false_or, or_false, Bool.false_eq_true]
theorem lc_10 {ar i : Nat} (hb : BB s M) (hi : i + 6 ≤ X.1) (hX : X.1 < 2 ^ 30) : ∃ s' M', am_e X 0 446 [some (.retAddr ar), some (.ref (0 : Nat)), some (.ref (59 : Nat)), some (.int (nI i))] [] kS M = am_e X 0 1327 [some (.retAddr ar), some (.ref (0 : Nat)), some (.ref (59 : Nat)), some (.int (nI i))] [] kS M' ∧ BB s' M' := by
  obtain ⟨hx, hm, ho⟩ := hb
  have n1 : nI i + 1 = nI (i + 1) := nI_1 _
  have c1 : (nI (i + 1)).toNatClampNeg = i + 1 := nI_clamp (by omega)
  have z1 := nlt0 (n := i + 1) (by omega)
  have y1 := gsc (i := i + 1) (n := X.1) (by omega)
  have n2 : nI i + 2 = nI (i + 2) := nI_add i 2
  have c2 : (nI (i + 2)).toNatClampNeg = i + 2 := nI_clamp (by omega)
  have z2 := nlt0 (n := i + 2) (by omega)
  have y2 := gsc (i := i + 2) (n := X.1) (by omega)
  have n3 : nI i + 3 = nI (i + 3) := nI_add i 3
  have c3 : (nI (i + 3)).toNatClampNeg = i + 3 := nI_clamp (by omega)
  have z3 := nlt0 (n := i + 3) (by omega)
  have y3 := gsc (i := i + 3) (n := X.1) (by omega)
  have r1 := x_asked (X := X) hx ho (X.2 (i + 1)) (X.2 (i + 2)) (X.2 (i + 3))
  obtain ⟨M2, r2, j2, o2⟩ := m_asked (X := X) hm ho (X.2 (i + 1)) (X.2 (i + 2)) (X.2 (i + 3))
  refine ⟨_, M2, ?_, bb_st hx j2 o2 ho⟩
  simp only [e0_446, e0_447, e0_448, e0_449, e0_450, e0_451, e0_452, e0_453, e0_454, e0_455, e0_456, e0_457, e0_458, e0_459, e0_460, e0_461, e0_462, e0_465, e0_466, e0_467, e0_468, e0_469, e0_470, e0_471, e0_472, e0_473, e0_474, e0_475, e0_476, e0_477, e0_478, e0_479, e0_480, e0_481, e0_484, e0_487, e0_488, n1, c1, z1, y1, n2, c2, z2, y2, n3, c3, z3, y3, s0, s59, r1, r2, lc_eq, am_bv_s, am_bw_s, eq_self, true_or, or_true, am_b0, am_b1, am_em, if_true, if_false, true_and, and_true, false_and, and_false, not_true_eq_false, not_false_eq_true, false_or, or_false, Bool.false_eq_true]
theorem lc_11 {ar i : Nat} (hb : BB s M) (hi : i + 6 ≤ X.1) (hX : X.1 < 2 ^ 30) : ∃ s' M', am_e X 0 489 [some (.retAddr ar), some (.ref (0 : Nat)), some (.ref (59 : Nat)), some (.int (nI i))] [] kS M = am_e X 0 1327 [some (.retAddr ar), some (.ref (0 : Nat)), some (.ref (59 : Nat)), some (.int (nI i))] [] kS M' ∧ BB s' M' := by
  obtain ⟨hx, hm, ho⟩ := hb
  have n1 : nI i + 1 = nI (i + 1) := nI_1 _
  have c1 : (nI (i + 1)).toNatClampNeg = i + 1 := nI_clamp (by omega)
  have z1 := nlt0 (n := i + 1) (by omega)
  have y1 := gsc (i := i + 1) (n := X.1) (by omega)
  have n2 : nI i + 2 = nI (i + 2) := nI_add i 2
  have c2 : (nI (i + 2)).toNatClampNeg = i + 2 := nI_clamp (by omega)
  have z2 := nlt0 (n := i + 2) (by omega)
  have y2 := gsc (i := i + 2) (n := X.1) (by omega)
  have n3 : nI i + 3 = nI (i + 3) := nI_add i 3
  have c3 : (nI (i + 3)).toNatClampNeg = i + 3 := nI_clamp (by omega)
  have z3 := nlt0 (n := i + 3) (by omega)
  have y3 := gsc (i := i + 3) (n := X.1) (by omega)
  have n4 : nI i + 4 = nI (i + 4) := nI_add i 4
  have c4 : (nI (i + 4)).toNatClampNeg = i + 4 := nI_clamp (by omega)
  have z4 := nlt0 (n := i + 4) (by omega)
  have y4 := gsc (i := i + 4) (n := X.1) (by omega)
  obtain ⟨M1, r1, j1, o1⟩ := x_share (X := X) hx ho (X.2 (i + 1)) (X.2 (i + 2)) (X.2 (i + 3)) (X.2 (i + 4))
  obtain ⟨M2, r2, j2, o2⟩ := m_share (X := X) (hm.of o1 (fun a k q => pX_R q)) ho (X.2 (i + 1)) (X.2 (i + 2)) (X.2 (i + 3)) (X.2 (i + 4))
  refine ⟨_, M2, ?_, bb_st j1 j2 o2 ho⟩
  simp only [e0_489, e0_490, e0_491, e0_492, e0_493, e0_494, e0_495, e0_496, e0_497, e0_498, e0_499, e0_500, e0_501, e0_502, e0_503, e0_504, e0_505, e0_506, e0_507, e0_508, e0_509, e0_510, e0_513, e0_514, e0_515, e0_516, e0_517, e0_518, e0_519, e0_520, e0_521, e0_522, e0_523, e0_524, e0_525, e0_526, e0_527, e0_528, e0_529, e0_530, e0_531, e0_532, e0_533, e0_534, e0_537, e0_538, e0_541, e0_542, n1, c1, z1, y1, n2, c2, z2, y2, n3, c3, z3, y3, n4, c4, z4, y4, s0, s59, r1, r2, lc_eq, am_bv_s, am_bw_s, eq_self, true_or, or_true, am_b0, am_b1, am_em, if_true, if_false, true_and, and_true, false_and, and_false, not_true_eq_false, not_false_eq_true, false_or, or_false, Bool.false_eq_true]
theorem lc_12 {ar i : Nat} (hb : BB s M) (hi : i + 6 ≤ X.1) (hX : X.1 < 2 ^ 30) : ∃ s' M', am_e X 0 543 [some (.retAddr ar), some (.ref (0 : Nat)), some (.ref (59 : Nat)), some (.int (nI i))] [] kS M = am_e X 0 1327 [some (.retAddr ar), some (.ref (0 : Nat)), some (.ref (59 : Nat)), some (.int (nI i))] [] kS M' ∧ BB s' M' := by
  obtain ⟨hx, hm, ho⟩ := hb
  have n1 : nI i + 1 = nI (i + 1) := nI_1 _
  have c1 : (nI (i + 1)).toNatClampNeg = i + 1 := nI_clamp (by omega)
  have z1 := nlt0 (n := i + 1) (by omega)
  have y1 := gsc (i := i + 1) (n := X.1) (by omega)
  have n2 : nI i + 2 = nI (i + 2) := nI_add i 2
  have c2 : (nI (i + 2)).toNatClampNeg = i + 2 := nI_clamp (by omega)
  have z2 := nlt0 (n := i + 2) (by omega)
  have y2 := gsc (i := i + 2) (n := X.1) (by omega)
  have n3 : nI i + 3 = nI (i + 3) := nI_add i 3
  have c3 : (nI (i + 3)).toNatClampNeg = i + 3 := nI_clamp (by omega)
  have z3 := nlt0 (n := i + 3) (by omega)
  have y3 := gsc (i := i + 3) (n := X.1) (by omega)
  obtain ⟨M1, r1, j1, o1⟩ := x_knows (X := X) hx ho (X.2 (i + 1)) (X.2 (i + 2)) (X.2 (i + 3))
  obtain ⟨M2, r2, j2, o2⟩ := m_knows (X := X) (hm.of o1 (fun a k q => pX_R q)) ho (X.2 (i + 1)) (X.2 (i + 2)) (X.2 (i + 3))
  refine ⟨_, M2, ?_, bb_st j1 j2 o2 ho⟩
  simp only [e0_543, e0_544, e0_545, e0_546, e0_547, e0_548, e0_549, e0_550, e0_551, e0_552, e0_553, e0_554, e0_555, e0_556, e0_557, e0_558, e0_559, e0_562, e0_563, e0_564, e0_565, e0_566, e0_567, e0_568, e0_569, e0_570, e0_571, e0_572, e0_573, e0_574, e0_575, e0_576, e0_577, e0_578, e0_581, e0_582, e0_585, e0_586, n1, c1, z1, y1, n2, c2, z2, y2, n3, c3, z3, y3, s0, s59, r1, r2, lc_eq, am_bv_s, am_bw_s, eq_self, true_or, or_true, am_b0, am_b1, am_em, if_true, if_false, true_and, and_true, false_and, and_false, not_true_eq_false, not_false_eq_true, false_or, or_false, Bool.false_eq_true]
theorem lc_13 {ar i : Nat} (hb : BB s M) (hi : i + 6 ≤ X.1) (hX : X.1 < 2 ^ 30) : ∃ s' M', am_e X 0 587 [some (.retAddr ar), some (.ref (0 : Nat)), some (.ref (59 : Nat)), some (.int (nI i))] [] kS M = am_e X 0 1327 [some (.retAddr ar), some (.ref (0 : Nat)), some (.ref (59 : Nat)), some (.int (nI i))] [] kS M' ∧ BB s' M' := by
  obtain ⟨hx, hm, ho⟩ := hb
  have n1 : nI i + 1 = nI (i + 1) := nI_1 _
  have c1 : (nI (i + 1)).toNatClampNeg = i + 1 := nI_clamp (by omega)
  have z1 := nlt0 (n := i + 1) (by omega)
  have y1 := gsc (i := i + 1) (n := X.1) (by omega)
  have n2 : nI i + 2 = nI (i + 2) := nI_add i 2
  have c2 : (nI (i + 2)).toNatClampNeg = i + 2 := nI_clamp (by omega)
  have z2 := nlt0 (n := i + 2) (by omega)
  have y2 := gsc (i := i + 2) (n := X.1) (by omega)
  have n3 : nI i + 3 = nI (i + 3) := nI_add i 3
  have c3 : (nI (i + 3)).toNatClampNeg = i + 3 := nI_clamp (by omega)
  have z3 := nlt0 (n := i + 3) (by omega)
  have y3 := gsc (i := i + 3) (n := X.1) (by omega)
  have n4 : nI i + 4 = nI (i + 4) := nI_add i 4
  have c4 : (nI (i + 4)).toNatClampNeg = i + 4 := nI_clamp (by omega)
  have z4 := nlt0 (n := i + 4) (by omega)
  have y4 := gsc (i := i + 4) (n := X.1) (by omega)
  have r1 := x_may (X := X) hx ho (X.2 (i + 1)) (X.2 (i + 2)) (X.2 (i + 3)) (X.2 (i + 4))
  obtain ⟨M2, r2, j2, o2⟩ := m_may (X := X) hm ho (X.2 (i + 1)) (X.2 (i + 2)) (X.2 (i + 3)) (X.2 (i + 4))
  refine ⟨_, M2, ?_, bb_st hx j2 o2 ho⟩
  simp only [e0_587, e0_588, e0_589, e0_590, e0_591, e0_592, e0_593, e0_594, e0_595, e0_596, e0_597, e0_598, e0_599, e0_600, e0_601, e0_602, e0_603, e0_604, e0_605, e0_606, e0_607, e0_608, e0_611, e0_612, e0_613, e0_614, e0_615, e0_616, e0_617, e0_618, e0_619, e0_620, e0_621, e0_622, e0_623, e0_624, e0_625, e0_626, e0_627, e0_628, e0_629, e0_630, e0_631, e0_632, e0_635, e0_638, e0_639, n1, c1, z1, y1, n2, c2, z2, y2, n3, c3, z3, y3, n4, c4, z4, y4, s0, s59, r1, r2, lc_eq, am_bv_s, am_bw_s, eq_self, true_or, or_true, am_b0, am_b1, am_em, if_true, if_false, true_and, and_true, false_and, and_false, not_true_eq_false, not_false_eq_true, false_or, or_false, Bool.false_eq_true]
theorem lc_14 {ar i : Nat} (hb : BB s M) (hi : i + 6 ≤ X.1) (hX : X.1 < 2 ^ 30) : ∃ s' M', am_e X 0 640 [some (.retAddr ar), some (.ref (0 : Nat)), some (.ref (59 : Nat)), some (.int (nI i))] [] kS M = am_e X 0 1327 [some (.retAddr ar), some (.ref (0 : Nat)), some (.ref (59 : Nat)), some (.int (nI i))] [] kS M' ∧ BB s' M' := by
  obtain ⟨hx, hm, ho⟩ := hb
  have n1 : nI i + 1 = nI (i + 1) := nI_1 _
  have c1 : (nI (i + 1)).toNatClampNeg = i + 1 := nI_clamp (by omega)
  have z1 := nlt0 (n := i + 1) (by omega)
  have y1 := gsc (i := i + 1) (n := X.1) (by omega)
  have n2 : nI i + 2 = nI (i + 2) := nI_add i 2
  have c2 : (nI (i + 2)).toNatClampNeg = i + 2 := nI_clamp (by omega)
  have z2 := nlt0 (n := i + 2) (by omega)
  have y2 := gsc (i := i + 2) (n := X.1) (by omega)
  have n3 : nI i + 3 = nI (i + 3) := nI_add i 3
  have c3 : (nI (i + 3)).toNatClampNeg = i + 3 := nI_clamp (by omega)
  have z3 := nlt0 (n := i + 3) (by omega)
  have y3 := gsc (i := i + 3) (n := X.1) (by omega)
  have r1 := x_likeliest (X := X) hx ho (X.2 (i + 1)) (X.2 (i + 2)) (X.2 (i + 3))
  obtain ⟨M2, r2, j2, o2⟩ := m_likeliest (X := X) hm ho (X.2 (i + 1)) (X.2 (i + 2)) (X.2 (i + 3))
  refine ⟨_, M2, ?_, bb_st hx j2 o2 ho⟩
  simp only [e0_640, e0_641, e0_642, e0_643, e0_644, e0_645, e0_646, e0_647, e0_648, e0_649, e0_650, e0_651, e0_652, e0_653, e0_654, e0_655, e0_656, e0_659, e0_660, e0_661, e0_662, e0_663, e0_664, e0_665, e0_666, e0_667, e0_668, e0_669, e0_670, e0_671, e0_672, e0_673, e0_674, e0_675, e0_678, e0_681, e0_682, n1, c1, z1, y1, n2, c2, z2, y2, n3, c3, z3, y3, s0, s59, r1, r2, lc_eq, am_bv_s, am_bw_s, eq_self, true_or, or_true, am_b0, am_b1, am_em, if_true, if_false, true_and, and_true, false_and, and_false, not_true_eq_false, not_false_eq_true, false_or, or_false, Bool.false_eq_true]
theorem lc_15 {ar i : Nat} (hb : BB s M) (hi : i + 6 ≤ X.1) (hX : X.1 < 2 ^ 30) : ∃ s' M', am_e X 0 683 [some (.retAddr ar), some (.ref (0 : Nat)), some (.ref (59 : Nat)), some (.int (nI i))] [] kS M = am_e X 0 1327 [some (.retAddr ar), some (.ref (0 : Nat)), some (.ref (59 : Nat)), some (.int (nI i))] [] kS M' ∧ BB s' M' := by
  obtain ⟨hx, hm, ho⟩ := hb
  have n1 : nI i + 1 = nI (i + 1) := nI_1 _
  have c1 : (nI (i + 1)).toNatClampNeg = i + 1 := nI_clamp (by omega)
  have z1 := nlt0 (n := i + 1) (by omega)
  have y1 := gsc (i := i + 1) (n := X.1) (by omega)
  have n2 : nI i + 2 = nI (i + 2) := nI_add i 2
  have c2 : (nI (i + 2)).toNatClampNeg = i + 2 := nI_clamp (by omega)
  have z2 := nlt0 (n := i + 2) (by omega)
  have y2 := gsc (i := i + 2) (n := X.1) (by omega)
  have n3 : nI i + 3 = nI (i + 3) := nI_add i 3
  have c3 : (nI (i + 3)).toNatClampNeg = i + 3 := nI_clamp (by omega)
  have z3 := nlt0 (n := i + 3) (by omega)
  have y3 := gsc (i := i + 3) (n := X.1) (by omega)
  obtain ⟨M1, r1, j1, o1⟩ := x_cover (X := X) hx ho (X.2 (i + 1)) (X.2 (i + 2)) (X.2 (i + 3))
  obtain ⟨M2, r2, j2, o2⟩ := m_cover (X := X) (hm.of o1 (fun a k q => pX_R q)) ho (X.2 (i + 1)) (X.2 (i + 2)) (X.2 (i + 3))
  refine ⟨_, M2, ?_, bb_st j1 j2 o2 ho⟩
  simp only [e0_683, e0_684, e0_685, e0_686, e0_687, e0_688, e0_689, e0_690, e0_691, e0_692, e0_693, e0_694, e0_695, e0_696, e0_697, e0_698, e0_699, e0_702, e0_703, e0_704, e0_705, e0_706, e0_707, e0_708, e0_709, e0_710, e0_711, e0_712, e0_713, e0_714, e0_715, e0_716, e0_717, e0_718, e0_721, e0_722, e0_725, e0_726, n1, c1, z1, y1, n2, c2, z2, y2, n3, c3, z3, y3, s0, s59, r1, r2, lc_eq, am_bv_s, am_bw_s, eq_self, true_or, or_true, am_b0, am_b1, am_em, if_true, if_false, true_and, and_true, false_and, and_false, not_true_eq_false, not_false_eq_true, false_or, or_false, Bool.false_eq_true]
theorem lc_16 {ar i : Nat} (hb : BB s M) (hi : i + 6 ≤ X.1) (hX : X.1 < 2 ^ 30) : ∃ s' M', am_e X 0 727 [some (.retAddr ar), some (.ref (0 : Nat)), some (.ref (59 : Nat)), some (.int (nI i))] [] kS M = am_e X 0 1327 [some (.retAddr ar), some (.ref (0 : Nat)), some (.ref (59 : Nat)), some (.int (nI i))] [] kS M' ∧ BB s' M' := by
  obtain ⟨hx, hm, ho⟩ := hb
  have n1 : nI i + 1 = nI (i + 1) := nI_1 _
  have c1 : (nI (i + 1)).toNatClampNeg = i + 1 := nI_clamp (by omega)
  have z1 := nlt0 (n := i + 1) (by omega)
  have y1 := gsc (i := i + 1) (n := X.1) (by omega)
  obtain ⟨M1, r1, j1, o1⟩ := x_easiest (X := X) hx ho (X.2 (i + 1))
  obtain ⟨M2, r2, j2, o2⟩ := m_easiest (X := X) (hm.of o1 (fun a k q => pX_R q)) ho (X.2 (i + 1))
  refine ⟨_, M2, ?_, bb_st j1 j2 o2 ho⟩
  simp only [e0_727, e0_728, e0_729, e0_730, e0_731, e0_732, e0_733, e0_736, e0_737, e0_738, e0_739, e0_740, e0_741, e0_742, e0_745, e0_748, e0_749, n1, c1, z1, y1, s0, s59, r1, r2, lc_eq, am_bv_s, am_bw_s, eq_self, true_or, or_true, am_b0, am_b1, am_em, if_true, if_false, true_and, and_true, false_and, and_false, not_true_eq_false, not_false_eq_true, false_or, or_false, Bool.false_eq_true]
theorem lc_17 {ar i : Nat} (hb : BB s M) (hi : i + 6 ≤ X.1) (hX : X.1 < 2 ^ 30) : ∃ s' M', am_e X 0 750 [some (.retAddr ar), some (.ref (0 : Nat)), some (.ref (59 : Nat)), some (.int (nI i))] [] kS M = am_e X 0 1327 [some (.retAddr ar), some (.ref (0 : Nat)), some (.ref (59 : Nat)), some (.int (nI i))] [] kS M' ∧ BB s' M' := by
  obtain ⟨hx, hm, ho⟩ := hb
  have n1 : nI i + 1 = nI (i + 1) := nI_1 _
  have c1 : (nI (i + 1)).toNatClampNeg = i + 1 := nI_clamp (by omega)
  have z1 := nlt0 (n := i + 1) (by omega)
  have y1 := gsc (i := i + 1) (n := X.1) (by omega)
  have n2 : nI i + 2 = nI (i + 2) := nI_add i 2
  have c2 : (nI (i + 2)).toNatClampNeg = i + 2 := nI_clamp (by omega)
  have z2 := nlt0 (n := i + 2) (by omega)
  have y2 := gsc (i := i + 2) (n := X.1) (by omega)
  have n3 : nI i + 3 = nI (i + 3) := nI_add i 3
  have c3 : (nI (i + 3)).toNatClampNeg = i + 3 := nI_clamp (by omega)
  have z3 := nlt0 (n := i + 3) (by omega)
  have y3 := gsc (i := i + 3) (n := X.1) (by omega)
  have n4 : nI i + 4 = nI (i + 4) := nI_add i 4
  have c4 : (nI (i + 4)).toNatClampNeg = i + 4 := nI_clamp (by omega)
  have z4 := nlt0 (n := i + 4) (by omega)
  have y4 := gsc (i := i + 4) (n := X.1) (by omega)
  obtain ⟨M1, r1, j1, o1⟩ := x_ladder (X := X) hx ho (X.2 (i + 1)) (X.2 (i + 2)) (X.2 (i + 3)) (X.2 (i + 4))
  obtain ⟨M2, r2, j2, o2⟩ := m_ladder (X := X) (hm.of o1 (fun a k q => pX_R q)) ho (X.2 (i + 1)) (X.2 (i + 2)) (X.2 (i + 3)) (X.2 (i + 4))
  refine ⟨_, M2, ?_, bb_st j1 j2 o2 ho⟩
  simp only [e0_750, e0_751, e0_752, e0_753, e0_754, e0_755, e0_756, e0_757, e0_758, e0_759, e0_760, e0_761, e0_762, e0_763, e0_764, e0_765, e0_766, e0_767, e0_768, e0_769, e0_770, e0_771, e0_774, e0_775, e0_776, e0_777, e0_778, e0_779, e0_780, e0_781, e0_782, e0_783, e0_784, e0_785, e0_786, e0_787, e0_788, e0_789, e0_790, e0_791, e0_792, e0_793, e0_794, e0_795, e0_798, e0_801, e0_802, n1, c1, z1, y1, n2, c2, z2, y2, n3, c3, z3, y3, n4, c4, z4, y4, s0, s59, r1, r2, lc_eq, am_bv_s, am_bw_s, eq_self, true_or, or_true, am_b0, am_b1, am_em, if_true, if_false, true_and, and_true, false_and, and_false, not_true_eq_false, not_false_eq_true, false_or, or_false, Bool.false_eq_true]
theorem lc_18 {ar i : Nat} (hb : BB s M) (hi : i + 6 ≤ X.1) (hX : X.1 < 2 ^ 30) : ∃ s' M', am_e X 0 803 [some (.retAddr ar), some (.ref (0 : Nat)), some (.ref (59 : Nat)), some (.int (nI i))] [] kS M = am_e X 0 1327 [some (.retAddr ar), some (.ref (0 : Nat)), some (.ref (59 : Nat)), some (.int (nI i))] [] kS M' ∧ BB s' M' := by
  obtain ⟨hx, hm, ho⟩ := hb
  have n1 : nI i + 1 = nI (i + 1) := nI_1 _
  have c1 : (nI (i + 1)).toNatClampNeg = i + 1 := nI_clamp (by omega)
  have z1 := nlt0 (n := i + 1) (by omega)
  have y1 := gsc (i := i + 1) (n := X.1) (by omega)
  obtain ⟨M1, r1, j1, o1⟩ := x_next (X := X) hx ho (X.2 (i + 1))
  obtain ⟨M2, r2, j2, o2⟩ := m_next (X := X) (hm.of o1 (fun a k q => pX_R q)) ho (X.2 (i + 1))
  refine ⟨_, M2, ?_, bb_st j1 j2 o2 ho⟩
  simp only [e0_803, e0_804, e0_805, e0_806, e0_807, e0_808, e0_809, e0_812, e0_813, e0_814, e0_815, e0_816, e0_817, e0_818, e0_821, e0_824, e0_825, n1, c1, z1, y1, s0, s59, r1, r2, lc_eq, am_bv_s, am_bw_s, eq_self, true_or, or_true, am_b0, am_b1, am_em, if_true, if_false, true_and, and_true, false_and, and_false, not_true_eq_false, not_false_eq_true, false_or, or_false, Bool.false_eq_true]
theorem lc_19 {ar i : Nat} (hb : BB s M) (hi : i + 6 ≤ X.1) (hX : X.1 < 2 ^ 30) : ∃ s' M', am_e X 0 826 [some (.retAddr ar), some (.ref (0 : Nat)), some (.ref (59 : Nat)), some (.int (nI i))] [] kS M = am_e X 0 1327 [some (.retAddr ar), some (.ref (0 : Nat)), some (.ref (59 : Nat)), some (.int (nI i))] [] kS M' ∧ BB s' M' := by
  obtain ⟨hx, hm, ho⟩ := hb
  have n1 : nI i + 1 = nI (i + 1) := nI_1 _
  have c1 : (nI (i + 1)).toNatClampNeg = i + 1 := nI_clamp (by omega)
  have z1 := nlt0 (n := i + 1) (by omega)
  have y1 := gsc (i := i + 1) (n := X.1) (by omega)
  have n2 : nI i + 2 = nI (i + 2) := nI_add i 2
  have c2 : (nI (i + 2)).toNatClampNeg = i + 2 := nI_clamp (by omega)
  have z2 := nlt0 (n := i + 2) (by omega)
  have y2 := gsc (i := i + 2) (n := X.1) (by omega)
  obtain ⟨M1, r1, j1, o1⟩ := x_deal (X := X) hx ho (X.2 (i + 1)) (X.2 (i + 2))
  obtain ⟨M2, r2, j2, o2⟩ := m_deal (X := X) (hm.of o1 (fun a k q => pX_R q)) ho (X.2 (i + 1)) (X.2 (i + 2))
  refine ⟨_, M2, ?_, bb_st j1 j2 o2 ho⟩
  simp only [e0_826, e0_827, e0_828, e0_829, e0_830, e0_831, e0_832, e0_833, e0_834, e0_835, e0_836, e0_837, e0_840, e0_841, e0_842, e0_843, e0_844, e0_845, e0_846, e0_847, e0_848, e0_849, e0_850, e0_851, e0_854, e0_857, e0_858, n1, c1, z1, y1, n2, c2, z2, y2, s0, s59, r1, r2, lc_eq, am_bv_s, am_bw_s, eq_self, true_or, or_true, am_b0, am_b1, am_em, if_true, if_false, true_and, and_true, false_and, and_false, not_true_eq_false, not_false_eq_true, false_or, or_false, Bool.false_eq_true]
theorem lc_20 {ar i : Nat} (hb : BB s M) (hi : i + 6 ≤ X.1) (hX : X.1 < 2 ^ 30) : ∃ s' M', am_e X 0 859 [some (.retAddr ar), some (.ref (0 : Nat)), some (.ref (59 : Nat)), some (.int (nI i))] [] kS M = am_e X 0 1327 [some (.retAddr ar), some (.ref (0 : Nat)), some (.ref (59 : Nat)), some (.int (nI i))] [] kS M' ∧ BB s' M' := by
  obtain ⟨hx, hm, ho⟩ := hb
  have n1 : nI i + 1 = nI (i + 1) := nI_1 _
  have c1 : (nI (i + 1)).toNatClampNeg = i + 1 := nI_clamp (by omega)
  have z1 := nlt0 (n := i + 1) (by omega)
  have y1 := gsc (i := i + 1) (n := X.1) (by omega)
  have n2 : nI i + 2 = nI (i + 2) := nI_add i 2
  have c2 : (nI (i + 2)).toNatClampNeg = i + 2 := nI_clamp (by omega)
  have z2 := nlt0 (n := i + 2) (by omega)
  have y2 := gsc (i := i + 2) (n := X.1) (by omega)
  have n3 : nI i + 3 = nI (i + 3) := nI_add i 3
  have c3 : (nI (i + 3)).toNatClampNeg = i + 3 := nI_clamp (by omega)
  have z3 := nlt0 (n := i + 3) (by omega)
  have y3 := gsc (i := i + 3) (n := X.1) (by omega)
  have r1 := x_pair (X := X) hx ho (X.2 (i + 1)) (X.2 (i + 2)) (X.2 (i + 3))
  obtain ⟨M2, r2, j2, o2⟩ := m_pair (X := X) hm ho (X.2 (i + 1)) (X.2 (i + 2)) (X.2 (i + 3))
  refine ⟨_, M2, ?_, bb_st hx j2 o2 ho⟩
  simp only [e0_859, e0_860, e0_861, e0_862, e0_863, e0_864, e0_865, e0_866, e0_867, e0_868, e0_869, e0_870, e0_871, e0_872, e0_873, e0_874, e0_875, e0_878, e0_879, e0_880, e0_881, e0_882, e0_883, e0_884, e0_885, e0_886, e0_887, e0_888, e0_889, e0_890, e0_891, e0_892, e0_893, e0_894, e0_897, e0_900, e0_901, n1, c1, z1, y1, n2, c2, z2, y2, n3, c3, z3, y3, s0, s59, r1, r2, lc_eq, am_bv_s, am_bw_s, eq_self, true_or, or_true, am_b0, am_b1, am_em, if_true, if_false, true_and, and_true, false_and, and_false, not_true_eq_false, not_false_eq_true, false_or, or_false, Bool.false_eq_true]
theorem lc_21 {ar i : Nat} (hb : BB s M) (hi : i + 6 ≤ X.1) (hX : X.1 < 2 ^ 30) : ∃ s' M', am_e X 0 902 [some (.retAddr ar), some (.ref (0 : Nat)), some (.ref (59 : Nat)), some (.int (nI i))] [] kS M = am_e X 0 1327 [some (.retAddr ar), some (.ref (0 : Nat)), some (.ref (59 : Nat)), some (.int (nI i))] [] kS M' ∧ BB s' M' := by
  obtain ⟨hx, hm, ho⟩ := hb
  have n1 : nI i + 1 = nI (i + 1) := nI_1 _
  have c1 : (nI (i + 1)).toNatClampNeg = i + 1 := nI_clamp (by omega)
  have z1 := nlt0 (n := i + 1) (by omega)
  have y1 := gsc (i := i + 1) (n := X.1) (by omega)
  have n2 : nI i + 2 = nI (i + 2) := nI_add i 2
  have c2 : (nI (i + 2)).toNatClampNeg = i + 2 := nI_clamp (by omega)
  have z2 := nlt0 (n := i + 2) (by omega)
  have y2 := gsc (i := i + 2) (n := X.1) (by omega)
  have n3 : nI i + 3 = nI (i + 3) := nI_add i 3
  have c3 : (nI (i + 3)).toNatClampNeg = i + 3 := nI_clamp (by omega)
  have z3 := nlt0 (n := i + 3) (by omega)
  have y3 := gsc (i := i + 3) (n := X.1) (by omega)
  obtain ⟨M1, r1, j1, o1⟩ := x_alike (X := X) hx ho (X.2 (i + 1)) (X.2 (i + 2)) (X.2 (i + 3))
  obtain ⟨M2, r2, j2, o2⟩ := m_alike (X := X) (hm.of o1 (fun a k q => pX_R q)) ho (X.2 (i + 1)) (X.2 (i + 2)) (X.2 (i + 3))
  refine ⟨_, M2, ?_, bb_st j1 j2 o2 ho⟩
  simp only [e0_902, e0_903, e0_904, e0_905, e0_906, e0_907, e0_908, e0_909, e0_910, e0_911, e0_912, e0_913, e0_914, e0_915, e0_916, e0_917, e0_918, e0_921, e0_922, e0_923, e0_924, e0_925, e0_926, e0_927, e0_928, e0_929, e0_930, e0_931, e0_932, e0_933, e0_934, e0_935, e0_936, e0_937, e0_940, e0_941, e0_944, e0_945, n1, c1, z1, y1, n2, c2, z2, y2, n3, c3, z3, y3, s0, s59, r1, r2, lc_eq, am_bv_s, am_bw_s, eq_self, true_or, or_true, am_b0, am_b1, am_em, if_true, if_false, true_and, and_true, false_and, and_false, not_true_eq_false, not_false_eq_true, false_or, or_false, Bool.false_eq_true]
theorem lc_22 {ar i : Nat} (hb : BB s M) (hi : i + 6 ≤ X.1) (hX : X.1 < 2 ^ 30) : ∃ s' M', am_e X 0 946 [some (.retAddr ar), some (.ref (0 : Nat)), some (.ref (59 : Nat)), some (.int (nI i))] [] kS M = am_e X 0 1327 [some (.retAddr ar), some (.ref (0 : Nat)), some (.ref (59 : Nat)), some (.int (nI i))] [] kS M' ∧ BB s' M' := by
  obtain ⟨hx, hm, ho⟩ := hb
  have n1 : nI i + 1 = nI (i + 1) := nI_1 _
  have c1 : (nI (i + 1)).toNatClampNeg = i + 1 := nI_clamp (by omega)
  have z1 := nlt0 (n := i + 1) (by omega)
  have y1 := gsc (i := i + 1) (n := X.1) (by omega)
  have n2 : nI i + 2 = nI (i + 2) := nI_add i 2
  have c2 : (nI (i + 2)).toNatClampNeg = i + 2 := nI_clamp (by omega)
  have z2 := nlt0 (n := i + 2) (by omega)
  have y2 := gsc (i := i + 2) (n := X.1) (by omega)
  have r1 := x_better (X := X) hx ho (X.2 (i + 1)) (X.2 (i + 2))
  obtain ⟨M2, r2, j2, o2⟩ := m_better (X := X) hm ho (X.2 (i + 1)) (X.2 (i + 2))
  refine ⟨_, M2, ?_, bb_st hx j2 o2 ho⟩
  simp only [e0_946, e0_947, e0_948, e0_949, e0_950, e0_951, e0_952, e0_953, e0_954, e0_955, e0_956, e0_957, e0_960, e0_961, e0_962, e0_963, e0_964, e0_965, e0_966, e0_967, e0_968, e0_969, e0_970, e0_971, e0_974, e0_977, e0_978, n1, c1, z1, y1, n2, c2, z2, y2, s0, s59, r1, r2, lc_eq, am_bv_s, am_bw_s, eq_self, true_or, or_true, am_b0, am_b1, am_em, if_true, if_false, true_and, and_true, false_and, and_false, not_true_eq_false, not_false_eq_true, false_or, or_false, Bool.false_eq_true]
theorem lc_23 {ar i : Nat} (hb : BB s M) (hi : i + 6 ≤ X.1) (hX : X.1 < 2 ^ 30) : ∃ s' M', am_e X 0 979 [some (.retAddr ar), some (.ref (0 : Nat)), some (.ref (59 : Nat)), some (.int (nI i))] [] kS M = am_e X 0 1327 [some (.retAddr ar), some (.ref (0 : Nat)), some (.ref (59 : Nat)), some (.int (nI i))] [] kS M' ∧ BB s' M' := by
  obtain ⟨hx, hm, ho⟩ := hb
  have n1 : nI i + 1 = nI (i + 1) := nI_1 _
  have c1 : (nI (i + 1)).toNatClampNeg = i + 1 := nI_clamp (by omega)
  have z1 := nlt0 (n := i + 1) (by omega)
  have y1 := gsc (i := i + 1) (n := X.1) (by omega)
  have n2 : nI i + 2 = nI (i + 2) := nI_add i 2
  have c2 : (nI (i + 2)).toNatClampNeg = i + 2 := nI_clamp (by omega)
  have z2 := nlt0 (n := i + 2) (by omega)
  have y2 := gsc (i := i + 2) (n := X.1) (by omega)
  have n3 : nI i + 3 = nI (i + 3) := nI_add i 3
  have c3 : (nI (i + 3)).toNatClampNeg = i + 3 := nI_clamp (by omega)
  have z3 := nlt0 (n := i + 3) (by omega)
  have y3 := gsc (i := i + 3) (n := X.1) (by omega)
  have n4 : nI i + 4 = nI (i + 4) := nI_add i 4
  have c4 : (nI (i + 4)).toNatClampNeg = i + 4 := nI_clamp (by omega)
  have z4 := nlt0 (n := i + 4) (by omega)
  have y4 := gsc (i := i + 4) (n := X.1) (by omega)
  obtain ⟨M1, r1, j1, o1⟩ := x_learnt (X := X) hx ho (X.2 (i + 1)) (X.2 (i + 2)) (X.2 (i + 3)) (X.2 (i + 4))
  obtain ⟨M2, r2, j2, o2⟩ := m_learnt (X := X) (hm.of o1 (fun a k q => pX_R q)) ho (X.2 (i + 1)) (X.2 (i + 2)) (X.2 (i + 3)) (X.2 (i + 4))
  refine ⟨_, M2, ?_, bb_st j1 j2 o2 ho⟩
  simp only [e0_979, e0_980, e0_981, e0_982, e0_983, e0_984, e0_985, e0_986, e0_987, e0_988, e0_989, e0_990, e0_991, e0_992, e0_993, e0_994, e0_995, e0_996, e0_997, e0_998, e0_999, e0_1000, e0_1003, e0_1004, e0_1005, e0_1006, e0_1007, e0_1008, e0_1009, e0_1010, e0_1011, e0_1012, e0_1013, e0_1014, e0_1015, e0_1016, e0_1017, e0_1018, e0_1019, e0_1020, e0_1021, e0_1022, e0_1023, e0_1024, e0_1027, e0_1030, e0_1031, n1, c1, z1, y1, n2, c2, z2, y2, n3, c3, z3, y3, n4, c4, z4, y4, s0, s59, r1, r2, lc_eq, am_bv_s, am_bw_s, eq_self, true_or, or_true, am_b0, am_b1, am_em, if_true, if_false, true_and, and_true, false_and, and_false, not_true_eq_false, not_false_eq_true, false_or, or_false, Bool.false_eq_true]
theorem lc_24 {ar i : Nat} (hb : BB s M) (hi : i + 6 ≤ X.1) (hX : X.1 < 2 ^ 30) : ∃ s' M', am_e X 0 1032 [some (.retAddr ar), some (.ref (0 : Nat)), some (.ref (59 : Nat)), some (.int (nI i))] [] kS M = am_e X 0 1327 [some (.retAddr ar), some (.ref (0 : Nat)), some (.ref (59 : Nat)), some (.int (nI i))] [] kS M' ∧ BB s' M' := by
  obtain ⟨hx, hm, ho⟩ := hb
  have n1 : nI i + 1 = nI (i + 1) := nI_1 _
  have c1 : (nI (i + 1)).toNatClampNeg = i + 1 := nI_clamp (by omega)
  have z1 := nlt0 (n := i + 1) (by omega)
  have y1 := gsc (i := i + 1) (n := X.1) (by omega)
  have n2 : nI i + 2 = nI (i + 2) := nI_add i 2
  have c2 : (nI (i + 2)).toNatClampNeg = i + 2 := nI_clamp (by omega)
  have z2 := nlt0 (n := i + 2) (by omega)
  have y2 := gsc (i := i + 2) (n := X.1) (by omega)
  have n3 : nI i + 3 = nI (i + 3) := nI_add i 3
  have c3 : (nI (i + 3)).toNatClampNeg = i + 3 := nI_clamp (by omega)
  have z3 := nlt0 (n := i + 3) (by omega)
  have y3 := gsc (i := i + 3) (n := X.1) (by omega)
  obtain ⟨M1, r1, j1, o1⟩ := X_sheet (X := X) hx (X.2 (i + 1)) (X.2 (i + 2)) (X.2 (i + 3))
  obtain ⟨M2, r2, j2, o2⟩ := M_sheet (X := X) (hm.of o1 (fun a k q => pX_R q)) ho (X.2 (i + 1)) (X.2 (i + 2)) (X.2 (i + 3))
  refine ⟨_, M2, ?_, bb_st j1 j2 o2 ⟨sp_sheet_ok ho.1 (X.2 (i + 1)) (X.2 (i + 2)) (X.2 (i + 3)), ho.2⟩⟩
  simp only [e0_1032, e0_1033, e0_1034, e0_1035, e0_1036, e0_1037, e0_1038, e0_1039, e0_1040, e0_1041, e0_1042, e0_1043, e0_1044, e0_1045, e0_1046, e0_1047, e0_1048, e0_1051, e0_1052, e0_1053, e0_1054, e0_1055, e0_1056, e0_1057, e0_1058, e0_1059, e0_1060, e0_1061, e0_1062, e0_1063, e0_1064, e0_1065, e0_1066, e0_1067, e0_1070, e0_1073, e0_1074, n1, c1, z1, y1, n2, c2, z2, y2, n3, c3, z3, y3, s0, s59, r1, r2, lc_eq, am_bv_s, am_bw_s, eq_self, true_or, or_true, am_b0, am_b1, am_em, if_true, if_false, true_and, and_true, false_and, and_false, not_true_eq_false, not_false_eq_true, false_or, or_false, Bool.false_eq_true]
theorem lc_25 {ar i : Nat} (hb : BB s M) (hi : i + 6 ≤ X.1) (hX : X.1 < 2 ^ 30) : ∃ s' M', am_e X 0 1075 [some (.retAddr ar), some (.ref (0 : Nat)), some (.ref (59 : Nat)), some (.int (nI i))] [] kS M = am_e X 0 1327 [some (.retAddr ar), some (.ref (0 : Nat)), some (.ref (59 : Nat)), some (.int (nI i))] [] kS M' ∧ BB s' M' := by
  obtain ⟨hx, hm, ho⟩ := hb
  have n1 : nI i + 1 = nI (i + 1) := nI_1 _
  have c1 : (nI (i + 1)).toNatClampNeg = i + 1 := nI_clamp (by omega)
  have z1 := nlt0 (n := i + 1) (by omega)
  have y1 := gsc (i := i + 1) (n := X.1) (by omega)
  obtain ⟨M1, r1, j1, o1⟩ := X_lose (X := X) hx ho (X.2 (i + 1))
  obtain ⟨M2, r2, j2, o2⟩ := M_lose (X := X) (hm.of o1 (fun a k q => pX_R q)) ho (X.2 (i + 1))
  refine ⟨_, M2, ?_, bb_st j1 j2 o2 ⟨sp_lose_ok ho.1 (X.2 (i + 1)), ho.2⟩⟩
  simp only [e0_1075, e0_1076, e0_1077, e0_1078, e0_1079, e0_1080, e0_1081, e0_1084, e0_1085, e0_1086, e0_1087, e0_1088, e0_1089, e0_1090, e0_1093, e0_1096, e0_1097, n1, c1, z1, y1, s0, s59, r1, r2, lc_eq, am_bv_s, am_bw_s, eq_self, true_or, or_true, am_b0, am_b1, am_em, if_true, if_false, true_and, and_true, false_and, and_false, not_true_eq_false, not_false_eq_true, false_or, or_false, Bool.false_eq_true]
theorem lc_26 {ar i : Nat} (hb : BB s M) (hi : i + 6 ≤ X.1) (hX : X.1 < 2 ^ 30) : ∃ s' M', am_e X 0 1098 [some (.retAddr ar), some (.ref (0 : Nat)), some (.ref (59 : Nat)), some (.int (nI i))] [] kS M = am_e X 0 1327 [some (.retAddr ar), some (.ref (0 : Nat)), some (.ref (59 : Nat)), some (.int (nI i))] [] kS M' ∧ BB s' M' := by
  obtain ⟨hx, hm, ho⟩ := hb
  have n1 : nI i + 1 = nI (i + 1) := nI_1 _
  have c1 : (nI (i + 1)).toNatClampNeg = i + 1 := nI_clamp (by omega)
  have z1 := nlt0 (n := i + 1) (by omega)
  have y1 := gsc (i := i + 1) (n := X.1) (by omega)
  have n2 : nI i + 2 = nI (i + 2) := nI_add i 2
  have c2 : (nI (i + 2)).toNatClampNeg = i + 2 := nI_clamp (by omega)
  have z2 := nlt0 (n := i + 2) (by omega)
  have y2 := gsc (i := i + 2) (n := X.1) (by omega)
  have n3 : nI i + 3 = nI (i + 3) := nI_add i 3
  have c3 : (nI (i + 3)).toNatClampNeg = i + 3 := nI_clamp (by omega)
  have z3 := nlt0 (n := i + 3) (by omega)
  have y3 := gsc (i := i + 3) (n := X.1) (by omega)
  have n4 : nI i + 4 = nI (i + 4) := nI_add i 4
  have c4 : (nI (i + 4)).toNatClampNeg = i + 4 := nI_clamp (by omega)
  have z4 := nlt0 (n := i + 4) (by omega)
  have y4 := gsc (i := i + 4) (n := X.1) (by omega)
  obtain ⟨M1, r1, j1, o1⟩ := X_lay (X := X) hx ho (X.2 (i + 1)) (X.2 (i + 2)) (X.2 (i + 3)) (X.2 (i + 4))
  obtain ⟨M2, r2, j2, o2⟩ := M_lay (X := X) (hm.of o1 (fun a k q => pX_R q)) ho (X.2 (i + 1)) (X.2 (i + 2)) (X.2 (i + 3)) (X.2 (i + 4))
  refine ⟨_, M2, ?_, bb_st j1 j2 o2 ⟨sp_lay_ok ho.1 (X.2 (i + 1)) (X.2 (i + 2)) (X.2 (i + 3)) (X.2 (i + 4)), ho.2⟩⟩
  simp only [e0_1098, e0_1099, e0_1100, e0_1101, e0_1102, e0_1103, e0_1104, e0_1105, e0_1106, e0_1107, e0_1108, e0_1109, e0_1110, e0_1111, e0_1112, e0_1113, e0_1114, e0_1115, e0_1116, e0_1117, e0_1118, e0_1119, e0_1122, e0_1123, e0_1124, e0_1125, e0_1126, e0_1127, e0_1128, e0_1129, e0_1130, e0_1131, e0_1132, e0_1133, e0_1134, e0_1135, e0_1136, e0_1137, e0_1138, e0_1139, e0_1140, e0_1141, e0_1142, e0_1143, e0_1146, e0_1149, e0_1150, n1, c1, z1, y1, n2, c2, z2, y2, n3, c3, z3, y3, n4, c4, z4, y4, s0, s59, r1, r2, lc_eq, am_bv_s, am_bw_s, eq_self, true_or, or_true, am_b0, am_b1, am_em, if_true, if_false, true_and, and_true, false_and, and_false, not_true_eq_false, not_false_eq_true, false_or, or_false, Bool.false_eq_true]
theorem lc_27 {ar i : Nat} (hb : BB s M) (hi : i + 6 ≤ X.1) (hX : X.1 < 2 ^ 30) : ∃ s' M', am_e X 0 1151 [some (.retAddr ar), some (.ref (0 : Nat)), some (.ref (59 : Nat)), some (.int (nI i))] [] kS M = am_e X 0 1327 [some (.retAddr ar), some (.ref (0 : Nat)), some (.ref (59 : Nat)), some (.int (nI i))] [] kS M' ∧ BB s' M' := by
  obtain ⟨hx, hm, ho⟩ := hb
  have n1 : nI i + 1 = nI (i + 1) := nI_1 _
  have c1 : (nI (i + 1)).toNatClampNeg = i + 1 := nI_clamp (by omega)
  have z1 := nlt0 (n := i + 1) (by omega)
  have y1 := gsc (i := i + 1) (n := X.1) (by omega)
  have n2 : nI i + 2 = nI (i + 2) := nI_add i 2
  have c2 : (nI (i + 2)).toNatClampNeg = i + 2 := nI_clamp (by omega)
  have z2 := nlt0 (n := i + 2) (by omega)
  have y2 := gsc (i := i + 2) (n := X.1) (by omega)
  have n3 : nI i + 3 = nI (i + 3) := nI_add i 3
  have c3 : (nI (i + 3)).toNatClampNeg = i + 3 := nI_clamp (by omega)
  have z3 := nlt0 (n := i + 3) (by omega)
  have y3 := gsc (i := i + 3) (n := X.1) (by omega)
  obtain ⟨M1, r1, j1, o1⟩ := X_get (X := X) hx ho (X.2 (i + 1)) (X.2 (i + 2)) (X.2 (i + 3))
  obtain ⟨M2, r2, j2, o2⟩ := M_get (X := X) (hm.of o1 (fun a k q => pX_R q)) ho (X.2 (i + 1)) (X.2 (i + 2)) (X.2 (i + 3))
  refine ⟨_, M2, ?_, bb_st j1 j2 o2 ⟨sp_get_ok ho.1 (X.2 (i + 1)) (X.2 (i + 2)) (X.2 (i + 3)), ho.2⟩⟩
  simp only [e0_1151, e0_1152, e0_1153, e0_1154, e0_1155, e0_1156, e0_1157, e0_1158, e0_1159, e0_1160, e0_1161, e0_1162, e0_1163, e0_1164, e0_1165, e0_1166, e0_1167, e0_1170, e0_1171, e0_1172, e0_1173, e0_1174, e0_1175, e0_1176, e0_1177, e0_1178, e0_1179, e0_1180, e0_1181, e0_1182, e0_1183, e0_1184, e0_1185, e0_1186, e0_1189, e0_1192, e0_1193, n1, c1, z1, y1, n2, c2, z2, y2, n3, c3, z3, y3, s0, s59, r1, r2, lc_eq, am_bv_s, am_bw_s, eq_self, true_or, or_true, am_b0, am_b1, am_em, if_true, if_false, true_and, and_true, false_and, and_false, not_true_eq_false, not_false_eq_true, false_or, or_false, Bool.false_eq_true]
theorem lc_28 {ar i : Nat} (hb : BB s M) (hi : i + 6 ≤ X.1) (hX : X.1 < 2 ^ 30) : ∃ s' M', am_e X 0 1194 [some (.retAddr ar), some (.ref (0 : Nat)), some (.ref (59 : Nat)), some (.int (nI i))] [] kS M = am_e X 0 1327 [some (.retAddr ar), some (.ref (0 : Nat)), some (.ref (59 : Nat)), some (.int (nI i))] [] kS M' ∧ BB s' M' := by
  obtain ⟨hx, hm, ho⟩ := hb
  have n1 : nI i + 1 = nI (i + 1) := nI_1 _
  have c1 : (nI (i + 1)).toNatClampNeg = i + 1 := nI_clamp (by omega)
  have z1 := nlt0 (n := i + 1) (by omega)
  have y1 := gsc (i := i + 1) (n := X.1) (by omega)
  have n2 : nI i + 2 = nI (i + 2) := nI_add i 2
  have c2 : (nI (i + 2)).toNatClampNeg = i + 2 := nI_clamp (by omega)
  have z2 := nlt0 (n := i + 2) (by omega)
  have y2 := gsc (i := i + 2) (n := X.1) (by omega)
  have n3 : nI i + 3 = nI (i + 3) := nI_add i 3
  have c3 : (nI (i + 3)).toNatClampNeg = i + 3 := nI_clamp (by omega)
  have z3 := nlt0 (n := i + 3) (by omega)
  have y3 := gsc (i := i + 3) (n := X.1) (by omega)
  have n4 : nI i + 4 = nI (i + 4) := nI_add i 4
  have c4 : (nI (i + 4)).toNatClampNeg = i + 4 := nI_clamp (by omega)
  have z4 := nlt0 (n := i + 4) (by omega)
  have y4 := gsc (i := i + 4) (n := X.1) (by omega)
  have n5 : nI i + 5 = nI (i + 5) := nI_add i 5
  have c5 : (nI (i + 5)).toNatClampNeg = i + 5 := nI_clamp (by omega)
  have z5 := nlt0 (n := i + 5) (by omega)
  have y5 := gsc (i := i + 5) (n := X.1) (by omega)
  obtain ⟨M1, r1, j1, o1⟩ := X_copy (X := X) hx ho (X.2 (i + 1)) (X.2 (i + 2)) (X.2 (i + 3)) (X.2 (i + 4)) (X.2 (i + 5))
  obtain ⟨M2, r2, j2, o2⟩ := M_copy (X := X) (hm.of o1 (fun a k q => pX_R q)) ho (X.2 (i + 1)) (X.2 (i + 2)) (X.2 (i + 3)) (X.2 (i + 4)) (X.2 (i + 5))
  refine ⟨_, M2, ?_, bb_st j1 j2 o2 ⟨sp_copy_ok ho.1 (X.2 (i + 1)) (X.2 (i + 2)) (X.2 (i + 3)) (X.2 (i + 4)) (X.2 (i + 5)), ho.2⟩⟩
  simp only [e0_1194, e0_1195, e0_1196, e0_1197, e0_1198, e0_1199, e0_1200, e0_1201, e0_1202, e0_1203, e0_1204, e0_1205, e0_1206, e0_1207, e0_1208, e0_1209, e0_1210, e0_1211, e0_1212, e0_1213, e0_1214, e0_1215, e0_1216, e0_1217, e0_1218, e0_1219, e0_1220, e0_1223, e0_1224, e0_1225, e0_1226, e0_1227, e0_1228, e0_1229, e0_1230, e0_1231, e0_1232, e0_1233, e0_1234, e0_1235, e0_1236, e0_1237, e0_1238, e0_1239, e0_1240, e0_1241, e0_1242, e0_1243, e0_1244, e0_1245, e0_1246, e0_1247, e0_1248, e0_1249, e0_1252, e0_1255, e0_1256, n1, c1, z1, y1, n2, c2, z2, y2, n3, c3, z3, y3, n4, c4, z4, y4, n5, c5, z5, y5, s0, s59, r1, r2, lc_eq, am_bv_s, am_bw_s, eq_self, true_or, or_true, am_b0, am_b1, am_em, if_true, if_false, true_and, and_true, false_and, and_false, not_true_eq_false, not_false_eq_true, false_or, or_false, Bool.false_eq_true]
theorem lc_29 {ar i : Nat} (hb : BB s M) (hi : i + 6 ≤ X.1) (hX : X.1 < 2 ^ 30) : ∃ s' M', am_e X 0 1257 [some (.retAddr ar), some (.ref (0 : Nat)), some (.ref (59 : Nat)), some (.int (nI i))] [] kS M = am_e X 0 1327 [some (.retAddr ar), some (.ref (0 : Nat)), some (.ref (59 : Nat)), some (.int (nI i))] [] kS M' ∧ BB s' M' := by
  obtain ⟨hx, hm, ho⟩ := hb
  have n1 : nI i + 1 = nI (i + 1) := nI_1 _
  have c1 : (nI (i + 1)).toNatClampNeg = i + 1 := nI_clamp (by omega)
  have z1 := nlt0 (n := i + 1) (by omega)
  have y1 := gsc (i := i + 1) (n := X.1) (by omega)
  have n2 : nI i + 2 = nI (i + 2) := nI_add i 2
  have c2 : (nI (i + 2)).toNatClampNeg = i + 2 := nI_clamp (by omega)
  have z2 := nlt0 (n := i + 2) (by omega)
  have y2 := gsc (i := i + 2) (n := X.1) (by omega)
  obtain ⟨M1, r1, j1, o1⟩ := x_write (X := X) hx ho (X.2 (i + 1)) (X.2 (i + 2))
  obtain ⟨M2, r2, j2, o2⟩ := m_write (X := X) (hm.of o1 (fun a k q => pX_R q)) ho (X.2 (i + 1)) (X.2 (i + 2))
  refine ⟨_, M2, ?_, bb_st j1 j2 o2 (sp_wr_ok ho (X.2 (i + 1)) (X.2 (i + 2)))⟩
  simp only [e0_1257, e0_1258, e0_1259, e0_1260, e0_1261, e0_1262, e0_1263, e0_1264, e0_1265, e0_1266, e0_1267, e0_1268, e0_1271, e0_1272, e0_1273, e0_1274, e0_1275, e0_1276, e0_1277, e0_1278, e0_1279, e0_1280, e0_1281, e0_1282, e0_1285, e0_1288, e0_1289, n1, c1, z1, y1, n2, c2, z2, y2, s0, s59, r1, r2, lc_eq, am_bv_s, am_bw_s, eq_self, true_or, or_true, am_b0, am_b1, am_em, if_true, if_false, true_and, and_true, false_and, and_false, not_true_eq_false, not_false_eq_true, false_or, or_false, Bool.false_eq_true]
theorem lc_30 {ar i : Nat} (hb : BB s M) (hi : i + 6 ≤ X.1) (hX : X.1 < 2 ^ 30) : ∃ s' M', am_e X 0 1290 [some (.retAddr ar), some (.ref (0 : Nat)), some (.ref (59 : Nat)), some (.int (nI i))] [] kS M = am_e X 0 1327 [some (.retAddr ar), some (.ref (0 : Nat)), some (.ref (59 : Nat)), some (.int (nI i))] [] kS M' ∧ BB s' M' := by
  obtain ⟨hx, hm, ho⟩ := hb
  have n1 : nI i + 1 = nI (i + 1) := nI_1 _
  have c1 : (nI (i + 1)).toNatClampNeg = i + 1 := nI_clamp (by omega)
  have z1 := nlt0 (n := i + 1) (by omega)
  have y1 := gsc (i := i + 1) (n := X.1) (by omega)
  have r1 := x_count (X := X) hx ho (X.2 (i + 1))
  obtain ⟨M2, r2, j2, o2⟩ := m_count (X := X) hm ho (X.2 (i + 1))
  refine ⟨_, M2, ?_, bb_st hx j2 o2 ho⟩
  simp only [e0_1290, e0_1291, e0_1292, e0_1293, e0_1294, e0_1295, e0_1296, e0_1299, e0_1300, e0_1301, e0_1302, e0_1303, e0_1304, e0_1305, e0_1308, e0_1311, e0_1312, n1, c1, z1, y1, s0, s59, r1, r2, lc_eq, am_bv_s, am_bw_s, eq_self, true_or, or_true, am_b0, am_b1, am_em, if_true, if_false, true_and, and_true, false_and, and_false, not_true_eq_false, not_false_eq_true, false_or, or_false, Bool.false_eq_true]
theorem lc_31 {ar i : Nat} (hb : BB s M) (hi : i + 6 ≤ X.1) (hX : X.1 < 2 ^ 30) : ∃ s' M', am_e X 0 1313 [some (.retAddr ar), some (.ref (0 : Nat)), some (.ref (59 : Nat)), some (.int (nI i))] [] kS M = am_e X 0 1327 [some (.retAddr ar), some (.ref (0 : Nat)), some (.ref (59 : Nat)), some (.int (nI i))] [] kS M' ∧ BB s' M' := by
  obtain ⟨hx, hm, ho⟩ := hb
  obtain ⟨M1, r1, j1, o1⟩ := x_digest (X := X) hx ho 
  obtain ⟨M2, r2, j2, o2⟩ := m_digest (X := X) (hm.of o1 (fun a k q => pX_R q)) ho 
  refine ⟨_, M2, ?_, bb_st j1 j2 o2 ho⟩
  simp only [e0_1313, e0_1314, e0_1317, e0_1318, e0_1321, e0_1322, e0_1325, e0_1326, s0, s59, r1, r2, lc_eq, am_bv_s, am_bw_s, eq_self, true_or, or_true, am_b0, am_b1, am_em, if_true, if_false, true_and, and_true, false_and, and_false, not_true_eq_false, not_false_eq_true, false_or, or_false, Bool.false_eq_true]
end
