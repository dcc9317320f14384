/-! The law: call by call, and all of them -/
theorem law_gt {L i : Nat} (hL : L ≤ 384) (hi : i ≤ 400) : (nI L - 6 < nI i) = (L < i + 6) := by
  apply propext
  have e1 := nI_toInt (n := L) (by omega)
  have e2 := nI_toInt (n := i) (by omega)
  have e3 : (nI L - 6).toInt = (L : Int) - 6 := by
    rw [Int32.toInt_sub, e1, show (6 : Int32).toInt = 6 from by decide, Int.bmod_def]
    split <;> omega
  rw [Int32.lt_iff_toInt_lt, e3, e2]
  omega
theorem nIk2 (i : Nat) : nI i + 2 = nI (i + 2) := nI_add i 2
theorem nIk3 (i : Nat) : nI i + 3 = nI (i + 3) := nI_add i 3
theorem nIk4 (i : Nat) : nI i + 4 = nI (i + 4) := nI_add i 4
theorem nIk5 (i : Nat) : nI i + 5 = nI (i + 5) := nI_add i 5
theorem nIk6 (i : Nat) : nI i + 6 = nI (i + 6) := nI_add i 6
theorem zGood_1 {M : zMem} (g : zGood M) : zoc (mget M 1) = some 7 := by
  obtain ⟨-, _, _, _, _, _, _, _, _, _, _, _, _, _, _, _, h, -⟩ := g
  rw [h.1]; exact coRR
def zStep (M : zMem) (i : Nat) : Prop := ∃ M2, ev 186 18 [some (.ref 0), some (.ref 1), some (.ref 44), some (.int (nI i))] [] M = ev 186 18 [some (.ref 0), some (.ref 1), some (.ref 44), some (.int (nI (i + 6)))] [] M2 ∧ zGood M2 ∧ zKeep M M2
section LW
variable {M : zMem} {L : Nat} {xs : Nat → Int32} {i : Nat}
theorem w_nursery (g : zGood M) (h0 : mget M 0 = some (.inl (L, xs))) (hi : i + 6 ≤ L) (hL : L ≤ 384) (hc : xs i &&& 31 = 0) : zStep M i := by
  have P : zPI 68 135 [some (.int (xs (i + 1))), some (.int (xs (i + 2))), some (.int (xs (i + 3))), some (.int (xs (i + 4))), none, none, none] [some (.int (xs (i + 1))), some (.int (xs (i + 2))), some (.int (xs (i + 3))), some (.int (xs (i + 4))), none, none] M := p_nursery g
  obtain ⟨v, M1, M2, e1, e2, z44, m0, G, K⟩ := P
  have hz1 := zGood_1 g
  have a0 := zia_in (n := L) (f := xs) (j := i) (by omega) (by omega)
  have a1 := zia_in (n := L) (f := xs) (j := i + 1) (by omega) (by omega)
  have a2 := zia_in (n := L) (f := xs) (j := i + 2) (by omega) (by omega)
  have a3 := zia_in (n := L) (f := xs) (j := i + 3) (by omega) (by omega)
  have a4 := zia_in (n := L) (f := xs) (j := i + 4) (by omega) (by omega)
  have g1 : ¬ nI L - 6 < nI i := by rw [law_gt hL (by omega)]; omega
  refine ⟨M2, ?_, G, K⟩
  rw [e186_18]
  simp only [e186_19, e186_19n, e186_20, e186_21, e186_23, e186_24, e186_27, e186_27n, e186_28, e186_29, e186_30, e186_32, e186_172, e186_172n, e186_173, e186_173n, e186_174, e186_175, e186_176, e186_177, e186_178, e186_178n, e186_179, e186_180, e186_181, e186_182, e186_183, e186_183n, e186_184, e186_185, e186_186, e186_187, e186_188, e186_188n, e186_189, e186_190, e186_191, e186_192, e186_193, e186_196, e186_196n, e186_197, e186_197n, e186_198, e186_199, e186_200, e186_201, e186_202, e186_202n, e186_203, e186_204, e186_205, e186_206, e186_207, e186_207n, e186_208, e186_209, e186_210, e186_211, e186_212, e186_212n, e186_213, e186_214, e186_215, e186_216, e186_217, e186_220, e186_223, e186_224, e186_1117, e186_1120, e186_33c0, ↓reduceIte, zth_v, zth_n, zthv_s, zthi_s, zthm_s, true_or, or_true, eq_self, ne_eq, not_false_eq_true, not_true_eq_false, and_self, and_true, true_and, false_and, and_false, h0, m0, zal_i, g1, a0, a1, a2, a3, a4, hc, hz1, z44, e1, e2, nI_1, nIk2, nIk3, nIk4, nIk5, nIk6, Nat.reduceEqDiff]
theorem w_ofRider (g : zGood M) (h0 : mget M 0 = some (.inl (L, xs))) (hi : i + 6 ≤ L) (hL : L ≤ 384) (hc : xs i &&& 31 = 1) : zStep M i := by
  have P : zPI 69 138 [some (.int (xs (i + 1))), some (.int (xs (i + 2))), none] [some (.int (xs (i + 1))), some (.int (xs (i + 2)))] M := p_ofRider g
  obtain ⟨v, M1, M2, e1, e2, z44, m0, G, K⟩ := P
  have hz1 := zGood_1 g
  have a0 := zia_in (n := L) (f := xs) (j := i) (by omega) (by omega)
  have a1 := zia_in (n := L) (f := xs) (j := i + 1) (by omega) (by omega)
  have a2 := zia_in (n := L) (f := xs) (j := i + 2) (by omega) (by omega)
  have g1 : ¬ nI L - 6 < nI i := by rw [law_gt hL (by omega)]; omega
  refine ⟨M2, ?_, G, K⟩
  rw [e186_18]
  simp only [e186_19, e186_19n, e186_20, e186_21, e186_23, e186_24, e186_27, e186_27n, e186_28, e186_29, e186_30, e186_32, e186_225, e186_225n, e186_226, e186_226n, e186_227, e186_228, e186_229, e186_230, e186_231, e186_231n, e186_232, e186_233, e186_234, e186_235, e186_236, e186_239, e186_239n, e186_240, e186_240n, e186_241, e186_242, e186_243, e186_244, e186_245, e186_245n, e186_246, e186_247, e186_248, e186_249, e186_250, e186_253, e186_256, e186_257, e186_1117, e186_1120, e186_33c1, ↓reduceIte, zth_v, zth_n, zthv_s, zthi_s, zthm_s, true_or, or_true, eq_self, ne_eq, not_false_eq_true, not_true_eq_false, and_self, and_true, true_and, false_and, and_false, h0, m0, zal_i, g1, a0, a1, a2, hc, hz1, z44, e1, e2, nI_1, nIk2, nIk3, nIk4, nIk5, nIk6, Nat.reduceEqDiff]
theorem w_far (g : zGood M) (h0 : mget M 0 = some (.inl (L, xs))) (hi : i + 6 ≤ L) (hL : L ≤ 384) (hc : xs i &&& 31 = 2) : zStep M i := by
  have P : zPI 70 139 [some (.int (xs (i + 1)))] [some (.int (xs (i + 1)))] M := p_far g
  obtain ⟨v, M1, M2, e1, e2, z44, m0, G, K⟩ := P
  have hz1 := zGood_1 g
  have a0 := zia_in (n := L) (f := xs) (j := i) (by omega) (by omega)
  have a1 := zia_in (n := L) (f := xs) (j := i + 1) (by omega) (by omega)
  have g1 : ¬ nI L - 6 < nI i := by rw [law_gt hL (by omega)]; omega
  refine ⟨M2, ?_, G, K⟩
  rw [e186_18]
  simp only [e186_19, e186_19n, e186_20, e186_21, e186_23, e186_24, e186_27, e186_27n, e186_28, e186_29, e186_30, e186_32, e186_258, e186_258n, e186_259, e186_259n, e186_260, e186_261, e186_262, e186_263, e186_264, e186_267, e186_267n, e186_268, e186_268n, e186_269, e186_270, e186_271, e186_272, e186_273, e186_276, e186_279, e186_280, e186_1117, e186_1120, e186_33c2, ↓reduceIte, zth_v, zth_n, zthv_s, zthi_s, zthm_s, true_or, or_true, eq_self, ne_eq, not_false_eq_true, not_true_eq_false, and_self, and_true, true_and, false_and, and_false, h0, m0, zal_i, g1, a0, a1, hc, hz1, z44, e1, e2, nI_1, nIk2, nIk3, nIk4, nIk5, nIk6, Nat.reduceEqDiff]
theorem w_wax (g : zGood M) (h0 : mget M 0 = some (.inl (L, xs))) (hi : i + 6 ≤ L) (hL : L ≤ 384) (hc : xs i &&& 31 = 3) : zStep M i := by
  have P : zPI 71 140 [some (.int (xs (i + 1))), none] [some (.int (xs (i + 1))), none] M := p_wax g
  obtain ⟨v, M1, M2, e1, e2, z44, m0, G, K⟩ := P
  have hz1 := zGood_1 g
  have a0 := zia_in (n := L) (f := xs) (j := i) (by omega) (by omega)
  have a1 := zia_in (n := L) (f := xs) (j := i + 1) (by omega) (by omega)
  have g1 : ¬ nI L - 6 < nI i := by rw [law_gt hL (by omega)]; omega
  refine ⟨M2, ?_, G, K⟩
  rw [e186_18]
  simp only [e186_19, e186_19n, e186_20, e186_21, e186_23, e186_24, e186_27, e186_27n, e186_28, e186_29, e186_30, e186_32, e186_281, e186_281n, e186_282, e186_282n, e186_283, e186_284, e186_285, e186_286, e186_287, e186_290, e186_290n, e186_291, e186_291n, e186_292, e186_293, e186_294, e186_295, e186_296, e186_299, e186_302, e186_303, e186_1117, e186_1120, e186_33c3, ↓reduceIte, zth_v, zth_n, zthv_s, zthi_s, zthm_s, true_or, or_true, eq_self, ne_eq, not_false_eq_true, not_true_eq_false, and_self, and_true, true_and, false_and, and_false, h0, m0, zal_i, g1, a0, a1, hc, hz1, z44, e1, e2, nI_1, nIk2, nIk3, nIk4, nIk5, nIk6, Nat.reduceEqDiff]
theorem w_lean (g : zGood M) (h0 : mget M 0 = some (.inl (L, xs))) (hi : i + 6 ≤ L) (hL : L ≤ 384) (hc : xs i &&& 31 = 4) : zStep M i := by
  have P : zPI 72 141 [some (.int (xs (i + 1))), some (.int (xs (i + 2))), none, none] [some (.int (xs (i + 1))), some (.int (xs (i + 2))), none] M := p_lean g
  obtain ⟨v, M1, M2, e1, e2, z44, m0, G, K⟩ := P
  have hz1 := zGood_1 g
  have a0 := zia_in (n := L) (f := xs) (j := i) (by omega) (by omega)
  have a1 := zia_in (n := L) (f := xs) (j := i + 1) (by omega) (by omega)
  have a2 := zia_in (n := L) (f := xs) (j := i + 2) (by omega) (by omega)
  have g1 : ¬ nI L - 6 < nI i := by rw [law_gt hL (by omega)]; omega
  refine ⟨M2, ?_, G, K⟩
  rw [e186_18]
  simp only [e186_19, e186_19n, e186_20, e186_21, e186_23, e186_24, e186_27, e186_27n, e186_28, e186_29, e186_30, e186_32, e186_304, e186_304n, e186_305, e186_305n, e186_306, e186_307, e186_308, e186_309, e186_310, e186_310n, e186_311, e186_312, e186_313, e186_314, e186_315, e186_318, e186_318n, e186_319, e186_319n, e186_320, e186_321, e186_322, e186_323, e186_324, e186_324n, e186_325, e186_326, e186_327, e186_328, e186_329, e186_332, e186_335, e186_336, e186_1117, e186_1120, e186_33c4, ↓reduceIte, zth_v, zth_n, zthv_s, zthi_s, zthm_s, true_or, or_true, eq_self, ne_eq, not_false_eq_true, not_true_eq_false, and_self, and_true, true_and, false_and, and_false, h0, m0, zal_i, g1, a0, a1, a2, hc, hz1, z44, e1, e2, nI_1, nIk2, nIk3, nIk4, nIk5, nIk6, Nat.reduceEqDiff]
theorem w_minutes (g : zGood M) (h0 : mget M 0 = some (.inl (L, xs))) (hi : i + 6 ≤ L) (hL : L ≤ 384) (hc : xs i &&& 31 = 5) : zStep M i := by
  have P : zPI 73 144 [some (.int (xs (i + 1))), none, none] [some (.int (xs (i + 1))), none] M := p_minutes g
  obtain ⟨v, M1, M2, e1, e2, z44, m0, G, K⟩ := P
  have hz1 := zGood_1 g
  have a0 := zia_in (n := L) (f := xs) (j := i) (by omega) (by omega)
  have a1 := zia_in (n := L) (f := xs) (j := i + 1) (by omega) (by omega)
  have g1 : ¬ nI L - 6 < nI i := by rw [law_gt hL (by omega)]; omega
  refine ⟨M2, ?_, G, K⟩
  rw [e186_18]
  simp only [e186_19, e186_19n, e186_20, e186_21, e186_23, e186_24, e186_27, e186_27n, e186_28, e186_29, e186_30, e186_32, e186_337, e186_337n, e186_338, e186_338n, e186_339, e186_340, e186_341, e186_342, e186_343, e186_346, e186_346n, e186_347, e186_347n, e186_348, e186_349, e186_350, e186_351, e186_352, e186_355, e186_358, e186_359, e186_1117, e186_1120, e186_33c5, ↓reduceIte, zth_v, zth_n, zthv_s, zthi_s, zthm_s, true_or, or_true, eq_self, ne_eq, not_false_eq_true, not_true_eq_false, and_self, and_true, true_and, false_and, and_false, h0, m0, zal_i, g1, a0, a1, hc, hz1, z44, e1, e2, nI_1, nIk2, nIk3, nIk4, nIk5, nIk6, Nat.reduceEqDiff]
theorem w_shut (g : zGood M) (h0 : mget M 0 = some (.inl (L, xs))) (hi : i + 6 ≤ L) (hL : L ≤ 384) (hc : xs i &&& 31 = 6) : zStep M i := by
  have P : zPI 74 146 [some (.int (xs (i + 1))), none] [some (.int (xs (i + 1)))] M := p_shut g
  obtain ⟨v, M1, M2, e1, e2, z44, m0, G, K⟩ := P
  have hz1 := zGood_1 g
  have a0 := zia_in (n := L) (f := xs) (j := i) (by omega) (by omega)
  have a1 := zia_in (n := L) (f := xs) (j := i + 1) (by omega) (by omega)
  have g1 : ¬ nI L - 6 < nI i := by rw [law_gt hL (by omega)]; omega
  refine ⟨M2, ?_, G, K⟩
  rw [e186_18]
  simp only [e186_19, e186_19n, e186_20, e186_21, e186_23, e186_24, e186_27, e186_27n, e186_28, e186_29, e186_30, e186_32, e186_360, e186_360n, e186_361, e186_361n, e186_362, e186_363, e186_364, e186_365, e186_366, e186_369, e186_369n, e186_370, e186_370n, e186_371, e186_372, e186_373, e186_374, e186_375, e186_378, e186_381, e186_382, e186_1117, e186_1120, e186_33c6, ↓reduceIte, zth_v, zth_n, zthv_s, zthi_s, zthm_s, true_or, or_true, eq_self, ne_eq, not_false_eq_true, not_true_eq_false, and_self, and_true, true_and, false_and, and_false, h0, m0, zal_i, g1, a0, a1, hc, hz1, z44, e1, e2, nI_1, nIk2, nIk3, nIk4, nIk5, nIk6, Nat.reduceEqDiff]
theorem w_look (g : zGood M) (h0 : mget M 0 = some (.inl (L, xs))) (hi : i + 6 ≤ L) (hL : L ≤ 384) (hc : xs i &&& 31 = 7) : zStep M i := by
  have P : zPI 75 147 [some (.int (xs (i + 1))), none, none] [some (.int (xs (i + 1))), none] M := p_look g
  obtain ⟨v, M1, M2, e1, e2, z44, m0, G, K⟩ := P
  have hz1 := zGood_1 g
  have a0 := zia_in (n := L) (f := xs) (j := i) (by omega) (by omega)
  have a1 := zia_in (n := L) (f := xs) (j := i + 1) (by omega) (by omega)
  have g1 : ¬ nI L - 6 < nI i := by rw [law_gt hL (by omega)]; omega
  refine ⟨M2, ?_, G, K⟩
  rw [e186_18]
  simp only [e186_19, e186_19n, e186_20, e186_21, e186_23, e186_24, e186_27, e186_27n, e186_28, e186_29, e186_30, e186_32, e186_383, e186_383n, e186_384, e186_384n, e186_385, e186_386, e186_387, e186_388, e186_389, e186_392, e186_392n, e186_393, e186_393n, e186_394, e186_395, e186_396, e186_397, e186_398, e186_401, e186_404, e186_405, e186_1117, e186_1120, e186_33c7, ↓reduceIte, zth_v, zth_n, zthv_s, zthi_s, zthm_s, true_or, or_true, eq_self, ne_eq, not_false_eq_true, not_true_eq_false, and_self, and_true, true_and, false_and, and_false, h0, m0, zal_i, g1, a0, a1, hc, hz1, z44, e1, e2, nI_1, nIk2, nIk3, nIk4, nIk5, nIk6, Nat.reduceEqDiff]
theorem w_afternoon (g : zGood M) (h0 : mget M 0 = some (.inl (L, xs))) (hi : i + 6 ≤ L) (hL : L ≤ 384) (hc : xs i &&& 31 = 8) : zStep M i := by
  have P : zPI 76 153 [some (.int (xs (i + 1))), some (.int (xs (i + 2))), some (.int (xs (i + 3))), some (.int (xs (i + 4))), some (.int (xs (i + 5))), none, none, none] [some (.int (xs (i + 1))), some (.int (xs (i + 2))), some (.int (xs (i + 3))), some (.int (xs (i + 4))), some (.int (xs (i + 5))), none, none] M := p_afternoon g
  obtain ⟨v, M1, M2, e1, e2, z44, m0, G, K⟩ := P
  have hz1 := zGood_1 g
  have a0 := zia_in (n := L) (f := xs) (j := i) (by omega) (by omega)
  have a1 := zia_in (n := L) (f := xs) (j := i + 1) (by omega) (by omega)
  have a2 := zia_in (n := L) (f := xs) (j := i + 2) (by omega) (by omega)
  have a3 := zia_in (n := L) (f := xs) (j := i + 3) (by omega) (by omega)
  have a4 := zia_in (n := L) (f := xs) (j := i + 4) (by omega) (by omega)
  have a5 := zia_in (n := L) (f := xs) (j := i + 5) (by omega) (by omega)
  have g1 : ¬ nI L - 6 < nI i := by rw [law_gt hL (by omega)]; omega
  refine ⟨M2, ?_, G, K⟩
  rw [e186_18]
  simp only [e186_19, e186_19n, e186_20, e186_21, e186_23, e186_24, e186_27, e186_27n, e186_28, e186_29, e186_30, e186_32, e186_406, e186_406n, e186_407, e186_407n, e186_408, e186_409, e186_410, e186_411, e186_412, e186_412n, e186_413, e186_414, e186_415, e186_416, e186_417, e186_417n, e186_418, e186_419, e186_420, e186_421, e186_422, e186_422n, e186_423, e186_424, e186_425, e186_426, e186_427, e186_427n, e186_428, e186_429, e186_430, e186_431, e186_432, e186_435, e186_435n, e186_436, e186_436n, e186_437, e186_438, e186_439, e186_440, e186_441, e186_441n, e186_442, e186_443, e186_444, e186_445, e186_446, e186_446n, e186_447, e186_448, e186_449, e186_450, e186_451, e186_451n, e186_452, e186_453, e186_454, e186_455, e186_456, e186_456n, e186_457, e186_458, e186_459, e186_460, e186_461, e186_464, e186_467, e186_468, e186_1117, e186_1120, e186_33c8, ↓reduceIte, zth_v, zth_n, zthv_s, zthi_s, zthm_s, true_or, or_true, eq_self, ne_eq, not_false_eq_true, not_true_eq_false, and_self, and_true, true_and, false_and, and_false, h0, m0, zal_i, g1, a0, a1, a2, a3, a4, a5, hc, hz1, z44, e1, e2, nI_1, nIk2, nIk3, nIk4, nIk5, nIk6, Nat.reduceEqDiff]
theorem w_comes (g : zGood M) (h0 : mget M 0 = some (.inl (L, xs))) (hi : i + 6 ≤ L) (hL : L ≤ 384) (hc : xs i &&& 31 = 9) : zStep M i := by
  have P : zPI 82 155 [some (.int (xs (i + 1))), some (.int (xs (i + 2))), none] [some (.int (xs (i + 1))), some (.int (xs (i + 2)))] M := p_comes g
  obtain ⟨v, M1, M2, e1, e2, z44, m0, G, K⟩ := P
  have hz1 := zGood_1 g
  have a0 := zia_in (n := L) (f := xs) (j := i) (by omega) (by omega)
  have a1 := zia_in (n := L) (f := xs) (j := i + 1) (by omega) (by omega)
  have a2 := zia_in (n := L) (f := xs) (j := i + 2) (by omega) (by omega)
  have g1 : ¬ nI L - 6 < nI i := by rw [law_gt hL (by omega)]; omega
  refine ⟨M2, ?_, G, K⟩
  rw [e186_18]
  simp only [e186_19, e186_19n, e186_20, e186_21, e186_23, e186_24, e186_27, e186_27n, e186_28, e186_29, e186_30, e186_32, e186_469, e186_469n, e186_470, e186_470n, e186_471, e186_472, e186_473, e186_474, e186_475, e186_475n, e186_476, e186_477, e186_478, e186_479, e186_480, e186_483, e186_483n, e186_484, e186_484n, e186_485, e186_486, e186_487, e186_488, e186_489, e186_489n, e186_490, e186_491, e186_492, e186_493, e186_494, e186_497, e186_500, e186_501, e186_1117, e186_1120, e186_33c9, ↓reduceIte, zth_v, zth_n, zthv_s, zthi_s, zthm_s, true_or, or_true, eq_self, ne_eq, not_false_eq_true, not_true_eq_false, and_self, and_true, true_and, false_and, and_false, h0, m0, zal_i, g1, a0, a1, a2, hc, hz1, z44, e1, e2, nI_1, nIk2, nIk3, nIk4, nIk5, nIk6, Nat.reduceEqDiff]
theorem w_together (g : zGood M) (h0 : mget M 0 = some (.inl (L, xs))) (hi : i + 6 ≤ L) (hL : L ≤ 384) (hc : xs i &&& 31 = 10) : zStep M i := by
  have P : zPI 83 156 [some (.int (xs (i + 1))), some (.int (xs (i + 2))), none] [some (.int (xs (i + 1))), some (.int (xs (i + 2))), none, none, none] M := p_together g
  obtain ⟨v, M1, M2, e1, e2, z44, m0, G, K⟩ := P
  have hz1 := zGood_1 g
  have a0 := zia_in (n := L) (f := xs) (j := i) (by omega) (by omega)
  have a1 := zia_in (n := L) (f := xs) (j := i + 1) (by omega) (by omega)
  have a2 := zia_in (n := L) (f := xs) (j := i + 2) (by omega) (by omega)
  have g1 : ¬ nI L - 6 < nI i := by rw [law_gt hL (by omega)]; omega
  refine ⟨M2, ?_, G, K⟩
  rw [e186_18]
  simp only [e186_19, e186_19n, e186_20, e186_21, e186_23, e186_24, e186_27, e186_27n, e186_28, e186_29, e186_30, e186_32, e186_502, e186_502n, e186_503, e186_503n, e186_504, e186_505, e186_506, e186_507, e186_508, e186_508n, e186_509, e186_510, e186_511, e186_512, e186_513, e186_516, e186_516n, e186_517, e186_517n, e186_518, e186_519, e186_520, e186_521, e186_522, e186_522n, e186_523, e186_524, e186_525, e186_526, e186_527, e186_530, e186_533, e186_534, e186_1117, e186_1120, e186_33c10, ↓reduceIte, zth_v, zth_n, zthv_s, zthi_s, zthm_s, true_or, or_true, eq_self, ne_eq, not_false_eq_true, not_true_eq_false, and_self, and_true, true_and, false_and, and_false, h0, m0, zal_i, g1, a0, a1, a2, hc, hz1, z44, e1, e2, nI_1, nIk2, nIk3, nIk4, nIk5, nIk6, Nat.reduceEqDiff]
theorem w_waits (g : zGood M) (h0 : mget M 0 = some (.inl (L, xs))) (hi : i + 6 ≤ L) (hL : L ≤ 384) (hc : xs i &&& 31 = 11) : zStep M i := by
  have P : zPI 84 157 [some (.int (xs (i + 1))), some (.int (xs (i + 2))), none, none] [some (.int (xs (i + 1))), some (.int (xs (i + 2))), none, none, none] M := p_waits g
  obtain ⟨v, M1, M2, e1, e2, z44, m0, G, K⟩ := P
  have hz1 := zGood_1 g
  have a0 := zia_in (n := L) (f := xs) (j := i) (by omega) (by omega)
  have a1 := zia_in (n := L) (f := xs) (j := i + 1) (by omega) (by omega)
  have a2 := zia_in (n := L) (f := xs) (j := i + 2) (by omega) (by omega)
  have g1 : ¬ nI L - 6 < nI i := by rw [law_gt hL (by omega)]; omega
  refine ⟨M2, ?_, G, K⟩
  rw [e186_18]
  simp only [e186_19, e186_19n, e186_20, e186_21, e186_23, e186_24, e186_27, e186_27n, e186_28, e186_29, e186_30, e186_32, e186_535, e186_535n, e186_536, e186_536n, e186_537, e186_538, e186_539, e186_540, e186_541, e186_541n, e186_542, e186_543, e186_544, e186_545, e186_546, e186_549, e186_549n, e186_550, e186_550n, e186_551, e186_552, e186_553, e186_554, e186_555, e186_555n, e186_556, e186_557, e186_558, e186_559, e186_560, e186_563, e186_566, e186_567, e186_1117, e186_1120, e186_33c11, ↓reduceIte, zth_v, zth_n, zthv_s, zthi_s, zthm_s, true_or, or_true, eq_self, ne_eq, not_false_eq_true, not_true_eq_false, and_self, and_true, true_and, false_and, and_false, h0, m0, zal_i, g1, a0, a1, a2, hc, hz1, z44, e1, e2, nI_1, nIk2, nIk3, nIk4, nIk5, nIk6, Nat.reduceEqDiff]
theorem w_scouts (g : zGood M) (h0 : mget M 0 = some (.inl (L, xs))) (hi : i + 6 ≤ L) (hL : L ≤ 384) (hc : xs i &&& 31 = 12) : zStep M i := by
  have P : zPI 85 159 [none, none, none, none] [none, none, none, none] M := p_scouts g
  obtain ⟨v, M1, M2, e1, e2, z44, m0, G, K⟩ := P
  have hz1 := zGood_1 g
  have a0 := zia_in (n := L) (f := xs) (j := i) (by omega) (by omega)
  have g1 : ¬ nI L - 6 < nI i := by rw [law_gt hL (by omega)]; omega
  refine ⟨M2, ?_, G, K⟩
  rw [e186_18]
  simp only [e186_19, e186_19n, e186_20, e186_21, e186_23, e186_24, e186_27, e186_27n, e186_28, e186_29, e186_30, e186_32, e186_568, e186_568n, e186_569, e186_572, e186_572n, e186_573, e186_576, e186_579, e186_580, e186_1117, e186_1120, e186_33c12, ↓reduceIte, zth_v, zth_n, zthv_s, zthi_s, zthm_s, true_or, or_true, eq_self, ne_eq, not_false_eq_true, not_true_eq_false, and_self, and_true, true_and, false_and, and_false, h0, m0, zal_i, g1, a0, hc, hz1, z44, e1, e2, nI_1, nIk2, nIk3, nIk4, nIk5, nIk6, Nat.reduceEqDiff]
theorem w_guides (g : zGood M) (h0 : mget M 0 = some (.inl (L, xs))) (hi : i + 6 ≤ L) (hL : L ≤ 384) (hc : xs i &&& 31 = 13) : zStep M i := by
  have P : zPI 86 162 [some (.int (xs (i + 1)))] [some (.int (xs (i + 1))), none, none] M := p_guides g
  obtain ⟨v, M1, M2, e1, e2, z44, m0, G, K⟩ := P
  have hz1 := zGood_1 g
  have a0 := zia_in (n := L) (f := xs) (j := i) (by omega) (by omega)
  have a1 := zia_in (n := L) (f := xs) (j := i + 1) (by omega) (by omega)
  have g1 : ¬ nI L - 6 < nI i := by rw [law_gt hL (by omega)]; omega
  refine ⟨M2, ?_, G, K⟩
  rw [e186_18]
  simp only [e186_19, e186_19n, e186_20, e186_21, e186_23, e186_24, e186_27, e186_27n, e186_28, e186_29, e186_30, e186_32, e186_581, e186_581n, e186_582, e186_582n, e186_583, e186_584, e186_585, e186_586, e186_587, e186_590, e186_590n, e186_591, e186_591n, e186_592, e186_593, e186_594, e186_595, e186_596, e186_599, e186_602, e186_603, e186_1117, e186_1120, e186_33c13, ↓reduceIte, zth_v, zth_n, zthv_s, zthi_s, zthm_s, true_or, or_true, eq_self, ne_eq, not_false_eq_true, not_true_eq_false, and_self, and_true, true_and, false_and, and_false, h0, m0, zal_i, g1, a0, a1, hc, hz1, z44, e1, e2, nI_1, nIk2, nIk3, nIk4, nIk5, nIk6, Nat.reduceEqDiff]
theorem w_reading (g : zGood M) (h0 : mget M 0 = some (.inl (L, xs))) (hi : i + 6 ≤ L) (hL : L ≤ 384) (hc : xs i &&& 31 = 14) : zStep M i := by
  have P : zPI 87 163 [some (.int (xs (i + 1))), some (.int (xs (i + 2))), some (.int (xs (i + 3)))] [some (.int (xs (i + 1))), some (.int (xs (i + 2))), some (.int (xs (i + 3)))] M := p_reading g
  obtain ⟨v, M1, M2, e1, e2, z44, m0, G, K⟩ := P
  have hz1 := zGood_1 g
  have a0 := zia_in (n := L) (f := xs) (j := i) (by omega) (by omega)
  have a1 := zia_in (n := L) (f := xs) (j := i + 1) (by omega) (by omega)
  have a2 := zia_in (n := L) (f := xs) (j := i + 2) (by omega) (by omega)
  have a3 := zia_in (n := L) (f := xs) (j := i + 3) (by omega) (by omega)
  have g1 : ¬ nI L - 6 < nI i := by rw [law_gt hL (by omega)]; omega
  refine ⟨M2, ?_, G, K⟩
  rw [e186_18]
  simp only [e186_19, e186_19n, e186_20, e186_21, e186_23, e186_24, e186_27, e186_27n, e186_28, e186_29, e186_30, e186_32, e186_604, e186_604n, e186_605, e186_605n, e186_606, e186_607, e186_608, e186_609, e186_610, e186_610n, e186_611, e186_612, e186_613, e186_614, e186_615, e186_615n, e186_616, e186_617, e186_618, e186_619, e186_620, e186_623, e186_623n, e186_624, e186_624n, e186_625, e186_626, e186_627, e186_628, e186_629, e186_629n, e186_630, e186_631, e186_632, e186_633, e186_634, e186_634n, e186_635, e186_636, e186_637, e186_638, e186_639, e186_642, e186_645, e186_646, e186_1117, e186_1120, e186_33c14, ↓reduceIte, zth_v, zth_n, zthv_s, zthi_s, zthm_s, true_or, or_true, eq_self, ne_eq, not_false_eq_true, not_true_eq_false, and_self, and_true, true_and, false_and, and_false, h0, m0, zal_i, g1, a0, a1, a2, a3, hc, hz1, z44, e1, e2, nI_1, nIk2, nIk3, nIk4, nIk5, nIk6, Nat.reduceEqDiff]
theorem w_back (g : zGood M) (h0 : mget M 0 = some (.inl (L, xs))) (hi : i + 6 ≤ L) (hL : L ≤ 384) (hc : xs i &&& 31 = 15) : zStep M i := by
  have P : zPI 88 164 [some (.int (xs (i + 1)))] [some (.int (xs (i + 1)))] M := p_back g
  obtain ⟨v, M1, M2, e1, e2, z44, m0, G, K⟩ := P
  have hz1 := zGood_1 g
  have a0 := zia_in (n := L) (f := xs) (j := i) (by omega) (by omega)
  have a1 := zia_in (n := L) (f := xs) (j := i + 1) (by omega) (by omega)
  have g1 : ¬ nI L - 6 < nI i := by rw [law_gt hL (by omega)]; omega
  refine ⟨M2, ?_, G, K⟩
  rw [e186_18]
  simp only [e186_19, e186_19n, e186_20, e186_21, e186_23, e186_24, e186_27, e186_27n, e186_28, e186_29, e186_30, e186_32, e186_647, e186_647n, e186_648, e186_648n, e186_649, e186_650, e186_651, e186_652, e186_653, e186_656, e186_656n, e186_657, e186_657n, e186_658, e186_659, e186_660, e186_661, e186_662, e186_665, e186_668, e186_669, e186_1117, e186_1120, e186_33c15, ↓reduceIte, zth_v, zth_n, zthv_s, zthi_s, zthm_s, true_or, or_true, eq_self, ne_eq, not_false_eq_true, not_true_eq_false, and_self, and_true, true_and, false_and, and_false, h0, m0, zal_i, g1, a0, a1, hc, hz1, z44, e1, e2, nI_1, nIk2, nIk3, nIk4, nIk5, nIk6, Nat.reduceEqDiff]
theorem w_leans (g : zGood M) (h0 : mget M 0 = some (.inl (L, xs))) (hi : i + 6 ≤ L) (hL : L ≤ 384) (hc : xs i &&& 31 = 16) : zStep M i := by
  have P : zPI 89 166 [some (.int (xs (i + 1))), none, none, none] [some (.int (xs (i + 1))), none, none, none] M := p_leans g
  obtain ⟨v, M1, M2, e1, e2, z44, m0, G, K⟩ := P
  have hz1 := zGood_1 g
  have a0 := zia_in (n := L) (f := xs) (j := i) (by omega) (by omega)
  have a1 := zia_in (n := L) (f := xs) (j := i + 1) (by omega) (by omega)
  have g1 : ¬ nI L - 6 < nI i := by rw [law_gt hL (by omega)]; omega
  refine ⟨M2, ?_, G, K⟩
  rw [e186_18]
  simp only [e186_19, e186_19n, e186_20, e186_21, e186_23, e186_24, e186_27, e186_27n, e186_28, e186_29, e186_30, e186_32, e186_670, e186_670n, e186_671, e186_671n, e186_672, e186_673, e186_674, e186_675, e186_676, e186_679, e186_679n, e186_680, e186_680n, e186_681, e186_682, e186_683, e186_684, e186_685, e186_688, e186_691, e186_692, e186_1117, e186_1120, e186_33c16, ↓reduceIte, zth_v, zth_n, zthv_s, zthi_s, zthm_s, true_or, or_true, eq_self, ne_eq, not_false_eq_true, not_true_eq_false, and_self, and_true, true_and, false_and, and_false, h0, m0, zal_i, g1, a0, a1, hc, hz1, z44, e1, e2, nI_1, nIk2, nIk3, nIk4, nIk5, nIk6, Nat.reduceEqDiff]
theorem w_kinds (g : zGood M) (h0 : mget M 0 = some (.inl (L, xs))) (hi : i + 6 ≤ L) (hL : L ≤ 384) (hc : xs i &&& 31 = 17) : zStep M i := by
  have P : zPI 90 167 [some (.int (xs (i + 1))), none, none, none] [some (.int (xs (i + 1))), none, none, none] M := p_kinds g
  obtain ⟨v, M1, M2, e1, e2, z44, m0, G, K⟩ := P
  have hz1 := zGood_1 g
  have a0 := zia_in (n := L) (f := xs) (j := i) (by omega) (by omega)
  have a1 := zia_in (n := L) (f := xs) (j := i + 1) (by omega) (by omega)
  have g1 : ¬ nI L - 6 < nI i := by rw [law_gt hL (by omega)]; omega
  refine ⟨M2, ?_, G, K⟩
  rw [e186_18]
  simp only [e186_19, e186_19n, e186_20, e186_21, e186_23, e186_24, e186_27, e186_27n, e186_28, e186_29, e186_30, e186_32, e186_693, e186_693n, e186_694, e186_694n, e186_695, e186_696, e186_697, e186_698, e186_699, e186_702, e186_702n, e186_703, e186_703n, e186_704, e186_705, e186_706, e186_707, e186_708, e186_711, e186_714, e186_715, e186_1117, e186_1120, e186_33c17, ↓reduceIte, zth_v, zth_n, zthv_s, zthi_s, zthm_s, true_or, or_true, eq_self, ne_eq, not_false_eq_true, not_true_eq_false, and_self, and_true, true_and, false_and, and_false, h0, m0, zal_i, g1, a0, a1, hc, hz1, z44, e1, e2, nI_1, nIk2, nIk3, nIk4, nIk5, nIk6, Nat.reduceEqDiff]
theorem w_creaks (g : zGood M) (h0 : mget M 0 = some (.inl (L, xs))) (hi : i + 6 ≤ L) (hL : L ≤ 384) (hc : xs i &&& 31 = 18) : zStep M i := by
  have P : zPI 91 168 [none, none] [none, none, none] M := p_creaks g
  obtain ⟨v, M1, M2, e1, e2, z44, m0, G, K⟩ := P
  have hz1 := zGood_1 g
  have a0 := zia_in (n := L) (f := xs) (j := i) (by omega) (by omega)
  have g1 : ¬ nI L - 6 < nI i := by rw [law_gt hL (by omega)]; omega
  refine ⟨M2, ?_, G, K⟩
  rw [e186_18]
  simp only [e186_19, e186_19n, e186_20, e186_21, e186_23, e186_24, e186_27, e186_27n, e186_28, e186_29, e186_30, e186_32, e186_716, e186_716n, e186_717, e186_720, e186_720n, e186_721, e186_724, e186_727, e186_728, e186_1117, e186_1120, e186_33c18, ↓reduceIte, zth_v, zth_n, zthv_s, zthi_s, zthm_s, true_or, or_true, eq_self, ne_eq, not_false_eq_true, not_true_eq_false, and_self, and_true, true_and, false_and, and_false, h0, m0, zal_i, g1, a0, hc, hz1, z44, e1, e2, nI_1, nIk2, nIk3, nIk4, nIk5, nIk6, Nat.reduceEqDiff]
theorem w_odds (g : zGood M) (h0 : mget M 0 = some (.inl (L, xs))) (hi : i + 6 ≤ L) (hL : L ≤ 384) (hc : xs i &&& 31 = 19) : zStep M i := by
  have P : zPL 92 169 [some (.int (xs (i + 1))), some (.int (xs (i + 2))), some (.int (xs (i + 3))), none, none, none] [some (.int (xs (i + 1))), some (.int (xs (i + 2))), some (.int (xs (i + 3))), none, none, none] M := p_odds g
  obtain ⟨v, M1, M2, e1, e2, z44, m0, G, K⟩ := P
  have hz1 := zGood_1 g
  have a0 := zia_in (n := L) (f := xs) (j := i) (by omega) (by omega)
  have a1 := zia_in (n := L) (f := xs) (j := i + 1) (by omega) (by omega)
  have a2 := zia_in (n := L) (f := xs) (j := i + 2) (by omega) (by omega)
  have a3 := zia_in (n := L) (f := xs) (j := i + 3) (by omega) (by omega)
  have g1 : ¬ nI L - 6 < nI i := by rw [law_gt hL (by omega)]; omega
  refine ⟨M2, ?_, G, K⟩
  rw [e186_18]
  simp only [e186_19, e186_19n, e186_20, e186_21, e186_23, e186_24, e186_27, e186_27n, e186_28, e186_29, e186_30, e186_32, e186_729, e186_729n, e186_730, e186_730n, e186_731, e186_732, e186_733, e186_734, e186_735, e186_735n, e186_736, e186_737, e186_738, e186_739, e186_740, e186_740n, e186_741, e186_742, e186_743, e186_744, e186_745, e186_748, e186_748n, e186_749, e186_749n, e186_750, e186_751, e186_752, e186_753, e186_754, e186_754n, e186_755, e186_756, e186_757, e186_758, e186_759, e186_759n, e186_760, e186_761, e186_762, e186_763, e186_764, e186_767, e186_768, e186_771, e186_772, e186_1117, e186_1120, e186_33c19, ↓reduceIte, zth_v, zth_n, zthv_s, zthi_s, zthm_s, true_or, or_true, eq_self, ne_eq, not_false_eq_true, not_true_eq_false, and_self, and_true, true_and, false_and, and_false, h0, m0, zal_i, g1, a0, a1, a2, a3, hc, hz1, z44, e1, e2, lc_eq, nI_1, nIk2, nIk3, nIk4, nIk5, nIk6, Nat.reduceEqDiff]
theorem w_sheet (g : zGood M) (h0 : mget M 0 = some (.inl (L, xs))) (hi : i + 6 ≤ L) (hL : L ≤ 384) (hc : xs i &&& 31 = 20) : zStep M i := by
  have P : zPI 94 171 [some (.int (xs (i + 1))), some (.int (xs (i + 2))), some (.int (xs (i + 3))), none] [some (.int (xs (i + 1))), some (.int (xs (i + 2))), some (.int (xs (i + 3))), none] M := p_sheet g
  obtain ⟨v, M1, M2, e1, e2, z44, m0, G, K⟩ := P
  have hz1 := zGood_1 g
  have a0 := zia_in (n := L) (f := xs) (j := i) (by omega) (by omega)
  have a1 := zia_in (n := L) (f := xs) (j := i + 1) (by omega) (by omega)
  have a2 := zia_in (n := L) (f := xs) (j := i + 2) (by omega) (by omega)
  have a3 := zia_in (n := L) (f := xs) (j := i + 3) (by omega) (by omega)
  have g1 : ¬ nI L - 6 < nI i := by rw [law_gt hL (by omega)]; omega
  refine ⟨M2, ?_, G, K⟩
  rw [e186_18]
  simp only [e186_19, e186_19n, e186_20, e186_21, e186_23, e186_24, e186_27, e186_27n, e186_28, e186_29, e186_30, e186_32, e186_773, e186_773n, e186_774, e186_774n, e186_775, e186_776, e186_777, e186_778, e186_779, e186_779n, e186_780, e186_781, e186_782, e186_783, e186_784, e186_784n, e186_785, e186_786, e186_787, e186_788, e186_789, e186_792, e186_792n, e186_793, e186_793n, e186_794, e186_795, e186_796, e186_797, e186_798, e186_798n, e186_799, e186_800, e186_801, e186_802, e186_803, e186_803n, e186_804, e186_805, e186_806, e186_807, e186_808, e186_811, e186_814, e186_815, e186_1117, e186_1120, e186_33c20, ↓reduceIte, zth_v, zth_n, zthv_s, zthi_s, zthm_s, true_or, or_true, eq_self, ne_eq, not_false_eq_true, not_true_eq_false, and_self, and_true, true_and, false_and, and_false, h0, m0, zal_i, g1, a0, a1, a2, a3, hc, hz1, z44, e1, e2, nI_1, nIk2, nIk3, nIk4, nIk5, nIk6, Nat.reduceEqDiff]
theorem w_lose (g : zGood M) (h0 : mget M 0 = some (.inl (L, xs))) (hi : i + 6 ≤ L) (hL : L ≤ 384) (hc : xs i &&& 31 = 21) : zStep M i := by
  have P : zPI 95 172 [some (.int (xs (i + 1))), none] [some (.int (xs (i + 1))), none] M := p_lose g
  obtain ⟨v, M1, M2, e1, e2, z44, m0, G, K⟩ := P
  have hz1 := zGood_1 g
  have a0 := zia_in (n := L) (f := xs) (j := i) (by omega) (by omega)
  have a1 := zia_in (n := L) (f := xs) (j := i + 1) (by omega) (by omega)
  have g1 : ¬ nI L - 6 < nI i := by rw [law_gt hL (by omega)]; omega
  refine ⟨M2, ?_, G, K⟩
  rw [e186_18]
  simp only [e186_19, e186_19n, e186_20, e186_21, e186_23, e186_24, e186_27, e186_27n, e186_28, e186_29, e186_30, e186_32, e186_816, e186_816n, e186_817, e186_817n, e186_818, e186_819, e186_820, e186_821, e186_822, e186_825, e186_825n, e186_826, e186_826n, e186_827, e186_828, e186_829, e186_830, e186_831, e186_834, e186_837, e186_838, e186_1117, e186_1120, e186_33c21, ↓reduceIte, zth_v, zth_n, zthv_s, zthi_s, zthm_s, true_or, or_true, eq_self, ne_eq, not_false_eq_true, not_true_eq_false, and_self, and_true, true_and, false_and, and_false, h0, m0, zal_i, g1, a0, a1, hc, hz1, z44, e1, e2, nI_1, nIk2, nIk3, nIk4, nIk5, nIk6, Nat.reduceEqDiff]
theorem w_put (g : zGood M) (h0 : mget M 0 = some (.inl (L, xs))) (hi : i + 6 ≤ L) (hL : L ≤ 384) (hc : xs i &&& 31 = 22) : zStep M i := by
  have P : zPI 96 174 [some (.int (xs (i + 1))), some (.int (xs (i + 2))), some (.int (xs (i + 3))), none] [some (.int (xs (i + 1))), some (.int (xs (i + 2))), some (.int (xs (i + 3)))] M := p_put g
  obtain ⟨v, M1, M2, e1, e2, z44, m0, G, K⟩ := P
  have hz1 := zGood_1 g
  have a0 := zia_in (n := L) (f := xs) (j := i) (by omega) (by omega)
  have a1 := zia_in (n := L) (f := xs) (j := i + 1) (by omega) (by omega)
  have a2 := zia_in (n := L) (f := xs) (j := i + 2) (by omega) (by omega)
  have a3 := zia_in (n := L) (f := xs) (j := i + 3) (by omega) (by omega)
  have g1 : ¬ nI L - 6 < nI i := by rw [law_gt hL (by omega)]; omega
  refine ⟨M2, ?_, G, K⟩
  rw [e186_18]
  simp only [e186_19, e186_19n, e186_20, e186_21, e186_23, e186_24, e186_27, e186_27n, e186_28, e186_29, e186_30, e186_32, e186_839, e186_839n, e186_840, e186_840n, e186_841, e186_842, e186_843, e186_844, e186_845, e186_845n, e186_846, e186_847, e186_848, e186_849, e186_850, e186_850n, e186_851, e186_852, e186_853, e186_854, e186_855, e186_858, e186_858n, e186_859, e186_859n, e186_860, e186_861, e186_862, e186_863, e186_864, e186_864n, e186_865, e186_866, e186_867, e186_868, e186_869, e186_869n, e186_870, e186_871, e186_872, e186_873, e186_874, e186_877, e186_880, e186_881, e186_1117, e186_1120, e186_33c22, ↓reduceIte, zth_v, zth_n, zthv_s, zthi_s, zthm_s, true_or, or_true, eq_self, ne_eq, not_false_eq_true, not_true_eq_false, and_self, and_true, true_and, false_and, and_false, h0, m0, zal_i, g1, a0, a1, a2, a3, hc, hz1, z44, e1, e2, nI_1, nIk2, nIk3, nIk4, nIk5, nIk6, Nat.reduceEqDiff]
theorem w_cell (g : zGood M) (h0 : mget M 0 = some (.inl (L, xs))) (hi : i + 6 ≤ L) (hL : L ≤ 384) (hc : xs i &&& 31 = 23) : zStep M i := by
  have P : zPL 97 175 [some (.int (xs (i + 1))), some (.int (xs (i + 2))), some (.int (xs (i + 3))), none] [some (.int (xs (i + 1))), some (.int (xs (i + 2))), some (.int (xs (i + 3)))] M := p_cell g
  obtain ⟨v, M1, M2, e1, e2, z44, m0, G, K⟩ := P
  have hz1 := zGood_1 g
  have a0 := zia_in (n := L) (f := xs) (j := i) (by omega) (by omega)
  have a1 := zia_in (n := L) (f := xs) (j := i + 1) (by omega) (by omega)
  have a2 := zia_in (n := L) (f := xs) (j := i + 2) (by omega) (by omega)
  have a3 := zia_in (n := L) (f := xs) (j := i + 3) (by omega) (by omega)
  have g1 : ¬ nI L - 6 < nI i := by rw [law_gt hL (by omega)]; omega
  refine ⟨M2, ?_, G, K⟩
  rw [e186_18]
  simp only [e186_19, e186_19n, e186_20, e186_21, e186_23, e186_24, e186_27, e186_27n, e186_28, e186_29, e186_30, e186_32, e186_882, e186_882n, e186_883, e186_883n, e186_884, e186_885, e186_886, e186_887, e186_888, e186_888n, e186_889, e186_890, e186_891, e186_892, e186_893, e186_893n, e186_894, e186_895, e186_896, e186_897, e186_898, e186_901, e186_901n, e186_902, e186_902n, e186_903, e186_904, e186_905, e186_906, e186_907, e186_907n, e186_908, e186_909, e186_910, e186_911, e186_912, e186_912n, e186_913, e186_914, e186_915, e186_916, e186_917, e186_920, e186_921, e186_924, e186_925, e186_1117, e186_1120, e186_33c23, ↓reduceIte, zth_v, zth_n, zthv_s, zthi_s, zthm_s, true_or, or_true, eq_self, ne_eq, not_false_eq_true, not_true_eq_false, and_self, and_true, true_and, false_and, and_false, h0, m0, zal_i, g1, a0, a1, a2, a3, hc, hz1, z44, e1, e2, lc_eq, nI_1, nIk2, nIk3, nIk4, nIk5, nIk6, Nat.reduceEqDiff]
theorem w_copy (g : zGood M) (h0 : mget M 0 = some (.inl (L, xs))) (hi : i + 6 ≤ L) (hL : L ≤ 384) (hc : xs i &&& 31 = 24) : zStep M i := by
  have P : zPI 98 177 [some (.int (xs (i + 1))), some (.int (xs (i + 2))), some (.int (xs (i + 3))), some (.int (xs (i + 4))), some (.int (xs (i + 5))), none, none] [some (.int (xs (i + 1))), some (.int (xs (i + 2))), some (.int (xs (i + 3))), some (.int (xs (i + 4))), some (.int (xs (i + 5))), none] M := p_copy g
  obtain ⟨v, M1, M2, e1, e2, z44, m0, G, K⟩ := P
  have hz1 := zGood_1 g
  have a0 := zia_in (n := L) (f := xs) (j := i) (by omega) (by omega)
  have a1 := zia_in (n := L) (f := xs) (j := i + 1) (by omega) (by omega)
  have a2 := zia_in (n := L) (f := xs) (j := i + 2) (by omega) (by omega)
  have a3 := zia_in (n := L) (f := xs) (j := i + 3) (by omega) (by omega)
  have a4 := zia_in (n := L) (f := xs) (j := i + 4) (by omega) (by omega)
  have a5 := zia_in (n := L) (f := xs) (j := i + 5) (by omega) (by omega)
  have g1 : ¬ nI L - 6 < nI i := by rw [law_gt hL (by omega)]; omega
  refine ⟨M2, ?_, G, K⟩
  rw [e186_18]
  simp only [e186_19, e186_19n, e186_20, e186_21, e186_23, e186_24, e186_27, e186_27n, e186_28, e186_29, e186_30, e186_32, e186_926, e186_926n, e186_927, e186_927n, e186_928, e186_929, e186_930, e186_931, e186_932, e186_932n, e186_933, e186_934, e186_935, e186_936, e186_937, e186_937n, e186_938, e186_939, e186_940, e186_941, e186_942, e186_942n, e186_943, e186_944, e186_945, e186_946, e186_947, e186_947n, e186_948, e186_949, e186_950, e186_951, e186_952, e186_955, e186_955n, e186_956, e186_956n, e186_957, e186_958, e186_959, e186_960, e186_961, e186_961n, e186_962, e186_963, e186_964, e186_965, e186_966, e186_966n, e186_967, e186_968, e186_969, e186_970, e186_971, e186_971n, e186_972, e186_973, e186_974, e186_975, e186_976, e186_976n, e186_977, e186_978, e186_979, e186_980, e186_981, e186_984, e186_987, e186_988, e186_1117, e186_1120, e186_33c24, ↓reduceIte, zth_v, zth_n, zthv_s, zthi_s, zthm_s, true_or, or_true, eq_self, ne_eq, not_false_eq_true, not_true_eq_false, and_self, and_true, true_and, false_and, and_false, h0, m0, zal_i, g1, a0, a1, a2, a3, a4, a5, hc, hz1, z44, e1, e2, nI_1, nIk2, nIk3, nIk4, nIk5, nIk6, Nat.reduceEqDiff]
theorem w_tell (g : zGood M) (h0 : mget M 0 = some (.inl (L, xs))) (hi : i + 6 ≤ L) (hL : L ≤ 384) (hc : xs i &&& 31 = 25) : zStep M i := by
  have P : zPI 99 179 [some (.int (xs (i + 1))), none] [some (.int (xs (i + 1))), none, none] M := p_tell g
  obtain ⟨v, M1, M2, e1, e2, z44, m0, G, K⟩ := P
  have hz1 := zGood_1 g
  have a0 := zia_in (n := L) (f := xs) (j := i) (by omega) (by omega)
  have a1 := zia_in (n := L) (f := xs) (j := i + 1) (by omega) (by omega)
  have g1 : ¬ nI L - 6 < nI i := by rw [law_gt hL (by omega)]; omega
  refine ⟨M2, ?_, G, K⟩
  rw [e186_18]
  simp only [e186_19, e186_19n, e186_20, e186_21, e186_23, e186_24, e186_27, e186_27n, e186_28, e186_29, e186_30, e186_32, e186_989, e186_989n, e186_990, e186_990n, e186_991, e186_992, e186_993, e186_994, e186_995, e186_998, e186_998n, e186_999, e186_999n, e186_1000, e186_1001, e186_1002, e186_1003, e186_1004, e186_1007, e186_1010, e186_1011, e186_1117, e186_1120, e186_33c25, ↓reduceIte, zth_v, zth_n, zthv_s, zthi_s, zthm_s, true_or, or_true, eq_self, ne_eq, not_false_eq_true, not_true_eq_false, and_self, and_true, true_and, false_and, and_false, h0, m0, zal_i, g1, a0, a1, hc, hz1, z44, e1, e2, nI_1, nIk2, nIk3, nIk4, nIk5, nIk6, Nat.reduceEqDiff]
theorem w_call (g : zGood M) (h0 : mget M 0 = some (.inl (L, xs))) (hi : i + 6 ≤ L) (hL : L ≤ 384) (hc : xs i &&& 31 = 26) : zStep M i := by
  have P : zPI 103 180 [some (.int (xs (i + 1))), none] [some (.int (xs (i + 1)))] M := p_call g
  obtain ⟨v, M1, M2, e1, e2, z44, m0, G, K⟩ := P
  have hz1 := zGood_1 g
  have a0 := zia_in (n := L) (f := xs) (j := i) (by omega) (by omega)
  have a1 := zia_in (n := L) (f := xs) (j := i + 1) (by omega) (by omega)
  have g1 : ¬ nI L - 6 < nI i := by rw [law_gt hL (by omega)]; omega
  refine ⟨M2, ?_, G, K⟩
  rw [e186_18]
  simp only [e186_19, e186_19n, e186_20, e186_21, e186_23, e186_24, e186_27, e186_27n, e186_28, e186_29, e186_30, e186_32, e186_1012, e186_1012n, e186_1013, e186_1013n, e186_1014, e186_1015, e186_1016, e186_1017, e186_1018, e186_1021, e186_1021n, e186_1022, e186_1022n, e186_1023, e186_1024, e186_1025, e186_1026, e186_1027, e186_1030, e186_1033, e186_1034, e186_1117, e186_1120, e186_33c26, ↓reduceIte, zth_v, zth_n, zthv_s, zthi_s, zthm_s, true_or, or_true, eq_self, ne_eq, not_false_eq_true, not_true_eq_false, and_self, and_true, true_and, false_and, and_false, h0, m0, zal_i, g1, a0, a1, hc, hz1, z44, e1, e2, nI_1, nIk2, nIk3, nIk4, nIk5, nIk6, Nat.reduceEqDiff]
theorem w_as (g : zGood M) (h0 : mget M 0 = some (.inl (L, xs))) (hi : i + 6 ≤ L) (hL : L ≤ 384) (hc : xs i &&& 31 = 27) : zStep M i := by
  have P : zPI 107 181 [some (.int (xs (i + 1))), some (.int (xs (i + 2))), none] [some (.int (xs (i + 1))), some (.int (xs (i + 2)))] M := p_as g
  obtain ⟨v, M1, M2, e1, e2, z44, m0, G, K⟩ := P
  have hz1 := zGood_1 g
  have a0 := zia_in (n := L) (f := xs) (j := i) (by omega) (by omega)
  have a1 := zia_in (n := L) (f := xs) (j := i + 1) (by omega) (by omega)
  have a2 := zia_in (n := L) (f := xs) (j := i + 2) (by omega) (by omega)
  have g1 : ¬ nI L - 6 < nI i := by rw [law_gt hL (by omega)]; omega
  refine ⟨M2, ?_, G, K⟩
  rw [e186_18]
  simp only [e186_19, e186_19n, e186_20, e186_21, e186_23, e186_24, e186_27, e186_27n, e186_28, e186_29, e186_30, e186_32, e186_1035, e186_1035n, e186_1036, e186_1036n, e186_1037, e186_1038, e186_1039, e186_1040, e186_1041, e186_1041n, e186_1042, e186_1043, e186_1044, e186_1045, e186_1046, e186_1049, e186_1049n, e186_1050, e186_1050n, e186_1051, e186_1052, e186_1053, e186_1054, e186_1055, e186_1055n, e186_1056, e186_1057, e186_1058, e186_1059, e186_1060, e186_1063, e186_1066, e186_1067, e186_1117, e186_1120, e186_33c27, ↓reduceIte, zth_v, zth_n, zthv_s, zthi_s, zthm_s, true_or, or_true, eq_self, ne_eq, not_false_eq_true, not_true_eq_false, and_self, and_true, true_and, false_and, and_false, h0, m0, zal_i, g1, a0, a1, a2, hc, hz1, z44, e1, e2, nI_1, nIk2, nIk3, nIk4, nIk5, nIk6, Nat.reduceEqDiff]
theorem w_trace (g : zGood M) (h0 : mget M 0 = some (.inl (L, xs))) (hi : i + 6 ≤ L) (hL : L ≤ 384) (hc : xs i &&& 31 = 28) : zStep M i := by
  have P : zPI 108 182 [] [] M := p_trace g
  obtain ⟨v, M1, M2, e1, e2, z44, m0, G, K⟩ := P
  have hz1 := zGood_1 g
  have a0 := zia_in (n := L) (f := xs) (j := i) (by omega) (by omega)
  have g1 : ¬ nI L - 6 < nI i := by rw [law_gt hL (by omega)]; omega
  refine ⟨M2, ?_, G, K⟩
  rw [e186_18]
  simp only [e186_19, e186_19n, e186_20, e186_21, e186_23, e186_24, e186_27, e186_27n, e186_28, e186_29, e186_30, e186_32, e186_1068, e186_1068n, e186_1069, e186_1072, e186_1072n, e186_1073, e186_1076, e186_1079, e186_1080, e186_1117, e186_1120, e186_33c28, ↓reduceIte, zth_v, zth_n, zthv_s, zthi_s, zthm_s, true_or, or_true, eq_self, ne_eq, not_false_eq_true, not_true_eq_false, and_self, and_true, true_and, false_and, and_false, h0, m0, zal_i, g1, a0, hc, hz1, z44, e1, e2, nI_1, nIk2, nIk3, nIk4, nIk5, nIk6, Nat.reduceEqDiff]
theorem w_fault (g : zGood M) (h0 : mget M 0 = some (.inl (L, xs))) (hi : i + 6 ≤ L) (hL : L ≤ 384) (hc : xs i &&& 31 = 29) : zStep M i := by
  have P : zPI 109 183 [] [] M := p_fault g
  obtain ⟨v, M1, M2, e1, e2, z44, m0, G, K⟩ := P
  have hz1 := zGood_1 g
  have a0 := zia_in (n := L) (f := xs) (j := i) (by omega) (by omega)
  have g1 : ¬ nI L - 6 < nI i := by rw [law_gt hL (by omega)]; omega
  refine ⟨M2, ?_, G, K⟩
  rw [e186_18]
  simp only [e186_19, e186_19n, e186_20, e186_21, e186_23, e186_24, e186_27, e186_27n, e186_28, e186_29, e186_30, e186_32, e186_1081, e186_1081n, e186_1082, e186_1085, e186_1085n, e186_1086, e186_1089, e186_1092, e186_1093, e186_1117, e186_1120, e186_33c29, ↓reduceIte, zth_v, zth_n, zthv_s, zthi_s, zthm_s, true_or, or_true, eq_self, ne_eq, not_false_eq_true, not_true_eq_false, and_self, and_true, true_and, false_and, and_false, h0, m0, zal_i, g1, a0, hc, hz1, z44, e1, e2, nI_1, nIk2, nIk3, nIk4, nIk5, nIk6, Nat.reduceEqDiff]
theorem w_many (g : zGood M) (h0 : mget M 0 = some (.inl (L, xs))) (hi : i + 6 ≤ L) (hL : L ≤ 384) (hc : xs i &&& 31 = 30) : zStep M i := by
  have P : zPI 110 184 [some (.int (xs (i + 1)))] [some (.int (xs (i + 1)))] M := p_many g
  obtain ⟨v, M1, M2, e1, e2, z44, m0, G, K⟩ := P
  have hz1 := zGood_1 g
  have a0 := zia_in (n := L) (f := xs) (j := i) (by omega) (by omega)
  have a1 := zia_in (n := L) (f := xs) (j := i + 1) (by omega) (by omega)
  have g1 : ¬ nI L - 6 < nI i := by rw [law_gt hL (by omega)]; omega
  refine ⟨M2, ?_, G, K⟩
  rw [e186_18]
  simp only [e186_19, e186_19n, e186_20, e186_21, e186_23, e186_24, e186_27, e186_27n, e186_28, e186_29, e186_30, e186_32, e186_1094, e186_1094n, e186_1095, e186_1095n, e186_1096, e186_1097, e186_1098, e186_1099, e186_1100, e186_1103, e186_1103n, e186_1104, e186_1104n, e186_1105, e186_1106, e186_1107, e186_1108, e186_1109, e186_1112, e186_1115, e186_1116, e186_1117, e186_1120, e186_33c30, ↓reduceIte, zth_v, zth_n, zthv_s, zthi_s, zthm_s, true_or, or_true, eq_self, ne_eq, not_false_eq_true, not_true_eq_false, and_self, and_true, true_and, false_and, and_false, h0, m0, zal_i, g1, a0, a1, hc, hz1, z44, e1, e2, nI_1, nIk2, nIk3, nIk4, nIk5, nIk6, Nat.reduceEqDiff]
theorem w_none (g : zGood M) (h0 : mget M 0 = some (.inl (L, xs))) (hi : i + 6 ≤ L) (hL : L ≤ 384) (hh : ¬ xs i &&& 31 = 0) (h1 : ¬ xs i &&& 31 = 1) (h2 : ¬ xs i &&& 31 = 2) (h3 : ¬ xs i &&& 31 = 3) (h4 : ¬ xs i &&& 31 = 4) (h5 : ¬ xs i &&& 31 = 5) (h6 : ¬ xs i &&& 31 = 6) (h7 : ¬ xs i &&& 31 = 7) (h8 : ¬ xs i &&& 31 = 8) (h9 : ¬ xs i &&& 31 = 9) (h10 : ¬ xs i &&& 31 = 10) (h11 : ¬ xs i &&& 31 = 11) (h12 : ¬ xs i &&& 31 = 12) (h13 : ¬ xs i &&& 31 = 13) (h14 : ¬ xs i &&& 31 = 14) (h15 : ¬ xs i &&& 31 = 15) (h16 : ¬ xs i &&& 31 = 16) (h17 : ¬ xs i &&& 31 = 17) (h18 : ¬ xs i &&& 31 = 18) (h19 : ¬ xs i &&& 31 = 19) (h20 : ¬ xs i &&& 31 = 20) (h21 : ¬ xs i &&& 31 = 21) (h22 : ¬ xs i &&& 31 = 22) (h23 : ¬ xs i &&& 31 = 23) (h24 : ¬ xs i &&& 31 = 24) (h25 : ¬ xs i &&& 31 = 25) (h26 : ¬ xs i &&& 31 = 26) (h27 : ¬ xs i &&& 31 = 27) (h28 : ¬ xs i &&& 31 = 28) (h29 : ¬ xs i &&& 31 = 29) (h30 : ¬ xs i &&& 31 = 30) : zStep M i := by
  have a0 := zia_in (n := L) (f := xs) (j := i) (by omega) (by omega)
  have g1 : ¬ nI L - 6 < nI i := by rw [law_gt hL (by omega)]; omega
  refine ⟨M, ?_, g, rfl, by omega, by omega⟩
  rw [e186_18]
  simp only [e186_19, e186_19n, e186_20, e186_21, e186_23, e186_24, e186_27, e186_27n, e186_28, e186_29, e186_30, e186_32, e186_33c0, e186_33c1, e186_33c2, e186_33c3, e186_33c4, e186_33c5, e186_33c6, e186_33c7, e186_33c8, e186_33c9, e186_33c10, e186_33c11, e186_33c12, e186_33c13, e186_33c14, e186_33c15, e186_33c16, e186_33c17, e186_33c18, e186_33c19, e186_33c20, e186_33c21, e186_33c22, e186_33c23, e186_33c24, e186_33c25, e186_33c26, e186_33c27, e186_33c28, e186_33c29, e186_33c30, e186_33, e186_1117, e186_1120, ↓reduceIte, zth_v, zth_n, zthv_s, zthi_s, zthm_s, true_or, or_true, eq_self, ne_eq, not_false_eq_true, not_true_eq_false, and_self, and_true, true_and, false_and, and_false, h0, zal_i, g1, a0, hh, h1, h2, h3, h4, h5, h6, h7, h8, h9, h10, h11, h12, h13, h14, h15, h16, h17, h18, h19, h20, h21, h22, h23, h24, h25, h26, h27, h28, h29, h30, nIk6]
theorem w_all (g : zGood M) (h0 : mget M 0 = some (.inl (L, xs))) (hi : i + 6 ≤ L) (hL : L ≤ 384) : zStep M i := by
  by_cases hh : xs i &&& 31 = 0
  · exact w_nursery g h0 hi hL hh
  by_cases h1 : xs i &&& 31 = 1
  · exact w_ofRider g h0 hi hL h1
  by_cases h2 : xs i &&& 31 = 2
  · exact w_far g h0 hi hL h2
  by_cases h3 : xs i &&& 31 = 3
  · exact w_wax g h0 hi hL h3
  by_cases h4 : xs i &&& 31 = 4
  · exact w_lean g h0 hi hL h4
  by_cases h5 : xs i &&& 31 = 5
  · exact w_minutes g h0 hi hL h5
  by_cases h6 : xs i &&& 31 = 6
  · exact w_shut g h0 hi hL h6
  by_cases h7 : xs i &&& 31 = 7
  · exact w_look g h0 hi hL h7
  by_cases h8 : xs i &&& 31 = 8
  · exact w_afternoon g h0 hi hL h8
  by_cases h9 : xs i &&& 31 = 9
  · exact w_comes g h0 hi hL h9
  by_cases h10 : xs i &&& 31 = 10
  · exact w_together g h0 hi hL h10
  by_cases h11 : xs i &&& 31 = 11
  · exact w_waits g h0 hi hL h11
  by_cases h12 : xs i &&& 31 = 12
  · exact w_scouts g h0 hi hL h12
  by_cases h13 : xs i &&& 31 = 13
  · exact w_guides g h0 hi hL h13
  by_cases h14 : xs i &&& 31 = 14
  · exact w_reading g h0 hi hL h14
  by_cases h15 : xs i &&& 31 = 15
  · exact w_back g h0 hi hL h15
  by_cases h16 : xs i &&& 31 = 16
  · exact w_leans g h0 hi hL h16
  by_cases h17 : xs i &&& 31 = 17
  · exact w_kinds g h0 hi hL h17
  by_cases h18 : xs i &&& 31 = 18
  · exact w_creaks g h0 hi hL h18
  by_cases h19 : xs i &&& 31 = 19
  · exact w_odds g h0 hi hL h19
  by_cases h20 : xs i &&& 31 = 20
  · exact w_sheet g h0 hi hL h20
  by_cases h21 : xs i &&& 31 = 21
  · exact w_lose g h0 hi hL h21
  by_cases h22 : xs i &&& 31 = 22
  · exact w_put g h0 hi hL h22
  by_cases h23 : xs i &&& 31 = 23
  · exact w_cell g h0 hi hL h23
  by_cases h24 : xs i &&& 31 = 24
  · exact w_copy g h0 hi hL h24
  by_cases h25 : xs i &&& 31 = 25
  · exact w_tell g h0 hi hL h25
  by_cases h26 : xs i &&& 31 = 26
  · exact w_call g h0 hi hL h26
  by_cases h27 : xs i &&& 31 = 27
  · exact w_as g h0 hi hL h27
  by_cases h28 : xs i &&& 31 = 28
  · exact w_trace g h0 hi hL h28
  by_cases h29 : xs i &&& 31 = 29
  · exact w_fault g h0 hi hL h29
  by_cases h30 : xs i &&& 31 = 30
  · exact w_many g h0 hi hL h30
  exact w_none g h0 hi hL hh h1 h2 h3 h4 h5 h6 h7 h8 h9 h10 h11 h12 h13 h14 h15 h16 h17 h18 h19 h20 h21 h22 h23 h24 h25 h26 h27 h28 h29 h30
end LW
