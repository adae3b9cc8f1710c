/-! The law: one call after the other. -/
variable {h : j_Hd} {M M1 M2 : Nat → Nat → Int32} {n i : Nat}
theorem self_t (x : Int32) : (x = x) = True := eq_true rfl
theorem lw_0 (hh : Hd h) (hL : hC h 1003 = 22 ∧ hN h 1003 = n) (hI : INv M) (hi : i + 6 ≤ n) (hn : n ≤ 3072) {e : Nat} (he : 100 ≤ e) : ∃ M2, j_X e 225 204 [some (.ref 1003), some (.ref 1), some (.ref 115), some (.int (nI i))] [] (FS h M) = j_X e 225 1411 [some (.ref 1003), some (.ref 1), some (.ref 115), some (.int (nI i))] [] (FS h M2) ∧ INv M2 := by
  obtain ⟨E, z, K0, K1, T, W, hE⟩ := hI
  obtain ⟨v, M1, M2, p1, p2, p3, p4⟩ := g_trader hh hE (M 1003 (i + 1)) (M 1003 (i + 2)) e he
  have w0 := hh.1.1
  have m0 := hh.2.2.2.2.2.2.2.1.1
  have l1 := hL.1
  have l2 := hL.2
  have p5 : ∀ k, M1 1003 k = M 1003 k := fun k => congrFun p3 k
  have i1 : i + 1 < n := by omega
  have i2 : i + 2 < n := by omega
  have i3 : i + 3 < n := by omega
  have i4 : i + 4 < n := by omega
  have i5 : i + 5 < n := by omega
  refine ⟨M2, ?_, p4⟩
  simp (disch := omega) only [st_225_204, st_225_204N, st_225_205, st_225_206, st_225_207, st_225_208, st_225_209, st_225_210, st_225_211, st_225_212, st_225_213, st_225_214, st_225_215, st_225_218, st_225_218N, st_225_219, st_225_220, st_225_221, st_225_222, st_225_223, st_225_224, st_225_225, st_225_226, st_225_227, st_225_228, st_225_229, st_225_232, st_225_235, st_225_236, ini_225, fs_cl, fs_len, fs_rf, fs_M, fs_put, fs_cpy, ↓reduceIte, rv_ref, true_or, or_true, true_and, and_true, nI_ltI, ix_nI, nI_clamp, ps_i, ps_n, Option.bind_some, sm_0, sm_1, sm_2, sm_3, sm_4, sto_0, sto_1, sto_2, sto_3, sto_4, sto_5, sto_6, sto_7, sto_8, sto_9, sto_10, sto_11, sto_12, sto_13, sto_14, nlo_n, nlo_i, nlo_r, nlo_0, nlo_l, and_self, or_self, Nat.reduceEqDiff, Nat.reduceLT, Nat.reduceLeDiff, Nat.one_ne_zero, Nat.zero_ne_one, l1, l2, w0, m0, nI_add, i1, i2, i3, i4, i5, p1, p5, p2, self_t]
theorem lw_1 (hh : Hd h) (hL : hC h 1003 = 22 ∧ hN h 1003 = n) (hI : INv M) (hi : i + 6 ≤ n) (hn : n ≤ 3072) {e : Nat} (he : 100 ≤ e) : ∃ M2, j_X e 225 237 [some (.ref 1003), some (.ref 1), some (.ref 115), some (.int (nI i))] [] (FS h M) = j_X e 225 1411 [some (.ref 1003), some (.ref 1), some (.ref 115), some (.int (nI i))] [] (FS h M2) ∧ INv M2 := by
  obtain ⟨E, z, K0, K1, T, W, hE⟩ := hI
  obtain ⟨v, M1, M2, p1, p2, p3, p4⟩ := g_ofTrader hh hE (M 1003 (i + 1)) (M 1003 (i + 2)) e he
  have w0 := hh.1.1
  have m0 := hh.2.2.2.2.2.2.2.1.1
  have l1 := hL.1
  have l2 := hL.2
  have p5 : ∀ k, M1 1003 k = M 1003 k := fun k => congrFun p3 k
  have i1 : i + 1 < n := by omega
  have i2 : i + 2 < n := by omega
  have i3 : i + 3 < n := by omega
  have i4 : i + 4 < n := by omega
  have i5 : i + 5 < n := by omega
  refine ⟨M2, ?_, p4⟩
  simp (disch := omega) only [st_225_237, st_225_237N, st_225_238, st_225_239, st_225_240, st_225_241, st_225_242, st_225_243, st_225_244, st_225_245, st_225_246, st_225_247, st_225_248, st_225_251, st_225_251N, st_225_252, st_225_253, st_225_254, st_225_255, st_225_256, st_225_257, st_225_258, st_225_259, st_225_260, st_225_261, st_225_262, st_225_265, st_225_268, st_225_269, ini_225, fs_cl, fs_len, fs_rf, fs_M, fs_put, fs_cpy, ↓reduceIte, rv_ref, true_or, or_true, true_and, and_true, nI_ltI, ix_nI, nI_clamp, ps_i, ps_n, Option.bind_some, sm_0, sm_1, sm_2, sm_3, sm_4, sto_0, sto_1, sto_2, sto_3, sto_4, sto_5, sto_6, sto_7, sto_8, sto_9, sto_10, sto_11, sto_12, sto_13, sto_14, nlo_n, nlo_i, nlo_r, nlo_0, nlo_l, and_self, or_self, Nat.reduceEqDiff, Nat.reduceLT, Nat.reduceLeDiff, Nat.one_ne_zero, Nat.zero_ne_one, l1, l2, w0, m0, nI_add, i1, i2, i3, i4, i5, p1, p5, p2, self_t]
theorem lw_2 (hh : Hd h) (hL : hC h 1003 = 22 ∧ hN h 1003 = n) (hI : INv M) (hi : i + 6 ≤ n) (hn : n ≤ 3072) {e : Nat} (he : 100 ≤ e) : ∃ M2, j_X e 225 270 [some (.ref 1003), some (.ref 1), some (.ref 115), some (.int (nI i))] [] (FS h M) = j_X e 225 1411 [some (.ref 1003), some (.ref 1), some (.ref 115), some (.int (nI i))] [] (FS h M2) ∧ INv M2 := by
  obtain ⟨E, z, K0, K1, T, W, hE⟩ := hI
  obtain ⟨v, M1, M2, p1, p2, p3, p4⟩ := g_change hh hE (M 1003 (i + 1)) (M 1003 (i + 2)) (M 1003 (i + 3)) e he
  have w0 := hh.1.1
  have m0 := hh.2.2.2.2.2.2.2.1.1
  have l1 := hL.1
  have l2 := hL.2
  have p5 : ∀ k, M1 1003 k = M 1003 k := fun k => congrFun p3 k
  have i1 : i + 1 < n := by omega
  have i2 : i + 2 < n := by omega
  have i3 : i + 3 < n := by omega
  have i4 : i + 4 < n := by omega
  have i5 : i + 5 < n := by omega
  refine ⟨M2, ?_, p4⟩
  simp (disch := omega) only [st_225_270, st_225_270N, st_225_271, st_225_272, st_225_273, st_225_274, st_225_275, st_225_276, st_225_277, st_225_278, st_225_279, st_225_280, st_225_281, st_225_282, st_225_283, st_225_284, st_225_285, st_225_286, st_225_289, st_225_289N, st_225_290, st_225_291, st_225_292, st_225_293, st_225_294, st_225_295, st_225_296, st_225_297, st_225_298, st_225_299, st_225_300, st_225_301, st_225_302, st_225_303, st_225_304, st_225_305, st_225_308, st_225_311, st_225_312, ini_225, fs_cl, fs_len, fs_rf, fs_M, fs_put, fs_cpy, ↓reduceIte, rv_ref, true_or, or_true, true_and, and_true, nI_ltI, ix_nI, nI_clamp, ps_i, ps_n, Option.bind_some, sm_0, sm_1, sm_2, sm_3, sm_4, sto_0, sto_1, sto_2, sto_3, sto_4, sto_5, sto_6, sto_7, sto_8, sto_9, sto_10, sto_11, sto_12, sto_13, sto_14, nlo_n, nlo_i, nlo_r, nlo_0, nlo_l, and_self, or_self, Nat.reduceEqDiff, Nat.reduceLT, Nat.reduceLeDiff, Nat.one_ne_zero, Nat.zero_ne_one, l1, l2, w0, m0, nI_add, i1, i2, i3, i4, i5, p1, p5, p2, self_t]
theorem lw_3 (hh : Hd h) (hL : hC h 1003 = 22 ∧ hN h 1003 = n) (hI : INv M) (hi : i + 6 ≤ n) (hn : n ≤ 3072) {e : Nat} (he : 100 ≤ e) : ∃ M2, j_X e 225 313 [some (.ref 1003), some (.ref 1), some (.ref 115), some (.int (nI i))] [] (FS h M) = j_X e 225 1411 [some (.ref 1003), some (.ref 1), some (.ref 115), some (.int (nI i))] [] (FS h M2) ∧ INv M2 := by
  obtain ⟨E, z, K0, K1, T, W, hE⟩ := hI
  obtain ⟨v, M1, M2, p1, p2, p3, p4⟩ := g_become hh hE (M 1003 (i + 1)) (M 1003 (i + 2)) e he
  have w0 := hh.1.1
  have m0 := hh.2.2.2.2.2.2.2.1.1
  have l1 := hL.1
  have l2 := hL.2
  have p5 : ∀ k, M1 1003 k = M 1003 k := fun k => congrFun p3 k
  have i1 : i + 1 < n := by omega
  have i2 : i + 2 < n := by omega
  have i3 : i + 3 < n := by omega
  have i4 : i + 4 < n := by omega
  have i5 : i + 5 < n := by omega
  refine ⟨M2, ?_, p4⟩
  simp (disch := omega) only [st_225_313, st_225_313N, st_225_314, st_225_315, st_225_316, st_225_317, st_225_318, st_225_319, st_225_320, st_225_321, st_225_322, st_225_323, st_225_324, st_225_327, st_225_327N, st_225_328, st_225_329, st_225_330, st_225_331, st_225_332, st_225_333, st_225_334, st_225_335, st_225_336, st_225_337, st_225_338, st_225_341, st_225_344, st_225_345, ini_225, fs_cl, fs_len, fs_rf, fs_M, fs_put, fs_cpy, ↓reduceIte, rv_ref, true_or, or_true, true_and, and_true, nI_ltI, ix_nI, nI_clamp, ps_i, ps_n, Option.bind_some, sm_0, sm_1, sm_2, sm_3, sm_4, sto_0, sto_1, sto_2, sto_3, sto_4, sto_5, sto_6, sto_7, sto_8, sto_9, sto_10, sto_11, sto_12, sto_13, sto_14, nlo_n, nlo_i, nlo_r, nlo_0, nlo_l, and_self, or_self, Nat.reduceEqDiff, Nat.reduceLT, Nat.reduceLeDiff, Nat.one_ne_zero, Nat.zero_ne_one, l1, l2, w0, m0, nI_add, i1, i2, i3, i4, i5, p1, p5, p2, self_t]
theorem lw_4 (hh : Hd h) (hL : hC h 1003 = 22 ∧ hN h 1003 = n) (hI : INv M) (hi : i + 6 ≤ n) (hn : n ≤ 3072) {e : Nat} (he : 100 ≤ e) : ∃ M2, j_X e 225 346 [some (.ref 1003), some (.ref 1), some (.ref 115), some (.int (nI i))] [] (FS h M) = j_X e 225 1411 [some (.ref 1003), some (.ref 1), some (.ref 115), some (.int (nI i))] [] (FS h M2) ∧ INv M2 := by
  obtain ⟨E, z, K0, K1, T, W, hE⟩ := hI
  obtain ⟨v, M1, M2, p1, p2, p3, p4⟩ := g_as hh hE (M 1003 (i + 1)) (M 1003 (i + 2)) e he
  have w0 := hh.1.1
  have m0 := hh.2.2.2.2.2.2.2.1.1
  have l1 := hL.1
  have l2 := hL.2
  have p5 : ∀ k, M1 1003 k = M 1003 k := fun k => congrFun p3 k
  have i1 : i + 1 < n := by omega
  have i2 : i + 2 < n := by omega
  have i3 : i + 3 < n := by omega
  have i4 : i + 4 < n := by omega
  have i5 : i + 5 < n := by omega
  refine ⟨M2, ?_, p4⟩
  simp (disch := omega) only [st_225_346, st_225_346N, st_225_347, st_225_348, st_225_349, st_225_350, st_225_351, st_225_352, st_225_353, st_225_354, st_225_355, st_225_356, st_225_357, st_225_360, st_225_360N, st_225_361, st_225_362, st_225_363, st_225_364, st_225_365, st_225_366, st_225_367, st_225_368, st_225_369, st_225_370, st_225_371, st_225_374, st_225_377, st_225_378, ini_225, fs_cl, fs_len, fs_rf, fs_M, fs_put, fs_cpy, ↓reduceIte, rv_ref, true_or, or_true, true_and, and_true, nI_ltI, ix_nI, nI_clamp, ps_i, ps_n, Option.bind_some, sm_0, sm_1, sm_2, sm_3, sm_4, sto_0, sto_1, sto_2, sto_3, sto_4, sto_5, sto_6, sto_7, sto_8, sto_9, sto_10, sto_11, sto_12, sto_13, sto_14, nlo_n, nlo_i, nlo_r, nlo_0, nlo_l, and_self, or_self, Nat.reduceEqDiff, Nat.reduceLT, Nat.reduceLeDiff, Nat.one_ne_zero, Nat.zero_ne_one, l1, l2, w0, m0, nI_add, i1, i2, i3, i4, i5, p1, p5, p2, self_t]
theorem lw_5 (hh : Hd h) (hL : hC h 1003 = 22 ∧ hN h 1003 = n) (hI : INv M) (hi : i + 6 ≤ n) (hn : n ≤ 3072) {e : Nat} (he : 100 ≤ e) : ∃ M2, j_X e 225 379 [some (.ref 1003), some (.ref 1), some (.ref 115), some (.int (nI i))] [] (FS h M) = j_X e 225 1411 [some (.ref 1003), some (.ref 1), some (.ref 115), some (.int (nI i))] [] (FS h M2) ∧ INv M2 := by
  obtain ⟨E, z, K0, K1, T, W, hE⟩ := hI
  obtain ⟨v, M1, M2, p1, p2, p3, p4⟩ := g_coin hh hE (M 1003 (i + 1)) (M 1003 (i + 2)) e he
  have w0 := hh.1.1
  have m0 := hh.2.2.2.2.2.2.2.1.1
  have l1 := hL.1
  have l2 := hL.2
  have p5 : ∀ k, M1 1003 k = M 1003 k := fun k => congrFun p3 k
  have i1 : i + 1 < n := by omega
  have i2 : i + 2 < n := by omega
  have i3 : i + 3 < n := by omega
  have i4 : i + 4 < n := by omega
  have i5 : i + 5 < n := by omega
  refine ⟨M2, ?_, p4⟩
  simp (disch := omega) only [st_225_379, st_225_379N, st_225_380, st_225_381, st_225_382, st_225_383, st_225_384, st_225_385, st_225_386, st_225_387, st_225_388, st_225_389, st_225_390, st_225_393, st_225_393N, st_225_394, st_225_395, st_225_396, st_225_397, st_225_398, st_225_399, st_225_400, st_225_401, st_225_402, st_225_403, st_225_404, st_225_407, st_225_410, st_225_411, ini_225, fs_cl, fs_len, fs_rf, fs_M, fs_put, fs_cpy, ↓reduceIte, rv_ref, true_or, or_true, true_and, and_true, nI_ltI, ix_nI, nI_clamp, ps_i, ps_n, Option.bind_some, sm_0, sm_1, sm_2, sm_3, sm_4, sto_0, sto_1, sto_2, sto_3, sto_4, sto_5, sto_6, sto_7, sto_8, sto_9, sto_10, sto_11, sto_12, sto_13, sto_14, nlo_n, nlo_i, nlo_r, nlo_0, nlo_l, and_self, or_self, Nat.reduceEqDiff, Nat.reduceLT, Nat.reduceLeDiff, Nat.one_ne_zero, Nat.zero_ne_one, l1, l2, w0, m0, nI_add, i1, i2, i3, i4, i5, p1, p5, p2, self_t]
theorem lw_6 (hh : Hd h) (hL : hC h 1003 = 22 ∧ hN h 1003 = n) (hI : INv M) (hi : i + 6 ≤ n) (hn : n ≤ 3072) {e : Nat} (he : 100 ≤ e) : ∃ M2, j_X e 225 412 [some (.ref 1003), some (.ref 1), some (.ref 115), some (.int (nI i))] [] (FS h M) = j_X e 225 1411 [some (.ref 1003), some (.ref 1), some (.ref 115), some (.int (nI i))] [] (FS h M2) ∧ INv M2 := by
  obtain ⟨E, z, K0, K1, T, W, hE⟩ := hI
  obtain ⟨v, M1, M2, p1, p2, p3, p4⟩ := g_ofCoin hh hE (M 1003 (i + 1)) (M 1003 (i + 2)) e he
  have w0 := hh.1.1
  have m0 := hh.2.2.2.2.2.2.2.1.1
  have l1 := hL.1
  have l2 := hL.2
  have p5 : ∀ k, M1 1003 k = M 1003 k := fun k => congrFun p3 k
  have i1 : i + 1 < n := by omega
  have i2 : i + 2 < n := by omega
  have i3 : i + 3 < n := by omega
  have i4 : i + 4 < n := by omega
  have i5 : i + 5 < n := by omega
  refine ⟨M2, ?_, p4⟩
  simp (disch := omega) only [st_225_412, st_225_412N, st_225_413, st_225_414, st_225_415, st_225_416, st_225_417, st_225_418, st_225_419, st_225_420, st_225_421, st_225_422, st_225_423, st_225_426, st_225_426N, st_225_427, st_225_428, st_225_429, st_225_430, st_225_431, st_225_432, st_225_433, st_225_434, st_225_435, st_225_436, st_225_437, st_225_440, st_225_443, st_225_444, ini_225, fs_cl, fs_len, fs_rf, fs_M, fs_put, fs_cpy, ↓reduceIte, rv_ref, true_or, or_true, true_and, and_true, nI_ltI, ix_nI, nI_clamp, ps_i, ps_n, Option.bind_some, sm_0, sm_1, sm_2, sm_3, sm_4, sto_0, sto_1, sto_2, sto_3, sto_4, sto_5, sto_6, sto_7, sto_8, sto_9, sto_10, sto_11, sto_12, sto_13, sto_14, nlo_n, nlo_i, nlo_r, nlo_0, nlo_l, and_self, or_self, Nat.reduceEqDiff, Nat.reduceLT, Nat.reduceLeDiff, Nat.one_ne_zero, Nat.zero_ne_one, l1, l2, w0, m0, nI_add, i1, i2, i3, i4, i5, p1, p5, p2, self_t]
theorem lw_7 (hh : Hd h) (hL : hC h 1003 = 22 ∧ hN h 1003 = n) (hI : INv M) (hi : i + 6 ≤ n) (hn : n ≤ 3072) {e : Nat} (he : 100 ≤ e) : ∃ M2, j_X e 225 445 [some (.ref 1003), some (.ref 1), some (.ref 115), some (.int (nI i))] [] (FS h M) = j_X e 225 1411 [some (.ref 1003), some (.ref 1), some (.ref 115), some (.int (nI i))] [] (FS h M2) ∧ INv M2 := by
  obtain ⟨E, z, K0, K1, T, W, hE⟩ := hI
  obtain ⟨v, M1, M2, p1, p2, p3, p4⟩ := g_rub hh hE (M 1003 (i + 1)) (M 1003 (i + 2)) e he
  have w0 := hh.1.1
  have m0 := hh.2.2.2.2.2.2.2.1.1
  have l1 := hL.1
  have l2 := hL.2
  have p5 : ∀ k, M1 1003 k = M 1003 k := fun k => congrFun p3 k
  have i1 : i + 1 < n := by omega
  have i2 : i + 2 < n := by omega
  have i3 : i + 3 < n := by omega
  have i4 : i + 4 < n := by omega
  have i5 : i + 5 < n := by omega
  refine ⟨M2, ?_, p4⟩
  simp (disch := omega) only [st_225_445, st_225_445N, st_225_446, st_225_447, st_225_448, st_225_449, st_225_450, st_225_451, st_225_452, st_225_453, st_225_454, st_225_455, st_225_456, st_225_459, st_225_459N, st_225_460, st_225_461, st_225_462, st_225_463, st_225_464, st_225_465, st_225_466, st_225_467, st_225_468, st_225_469, st_225_470, st_225_473, st_225_476, st_225_477, ini_225, fs_cl, fs_len, fs_rf, fs_M, fs_put, fs_cpy, ↓reduceIte, rv_ref, true_or, or_true, true_and, and_true, nI_ltI, ix_nI, nI_clamp, ps_i, ps_n, Option.bind_some, sm_0, sm_1, sm_2, sm_3, sm_4, sto_0, sto_1, sto_2, sto_3, sto_4, sto_5, sto_6, sto_7, sto_8, sto_9, sto_10, sto_11, sto_12, sto_13, sto_14, nlo_n, nlo_i, nlo_r, nlo_0, nlo_l, and_self, or_self, Nat.reduceEqDiff, Nat.reduceLT, Nat.reduceLeDiff, Nat.one_ne_zero, Nat.zero_ne_one, l1, l2, w0, m0, nI_add, i1, i2, i3, i4, i5, p1, p5, p2, self_t]
theorem lw_8 (hh : Hd h) (hL : hC h 1003 = 22 ∧ hN h 1003 = n) (hI : INv M) (hi : i + 6 ≤ n) (hn : n ≤ 3072) {e : Nat} (he : 100 ≤ e) : ∃ M2, j_X e 225 478 [some (.ref 1003), some (.ref 1), some (.ref 115), some (.int (nI i))] [] (FS h M) = j_X e 225 1411 [some (.ref 1003), some (.ref 1), some (.ref 115), some (.int (nI i))] [] (FS h M2) ∧ INv M2 := by
  obtain ⟨E, z, K0, K1, T, W, hE⟩ := hI
  obtain ⟨v, M1, M2, p1, p2, p3, p4⟩ := g_fade hh hE (M 1003 (i + 1)) e he
  have w0 := hh.1.1
  have m0 := hh.2.2.2.2.2.2.2.1.1
  have l1 := hL.1
  have l2 := hL.2
  have p5 : ∀ k, M1 1003 k = M 1003 k := fun k => congrFun p3 k
  have i1 : i + 1 < n := by omega
  have i2 : i + 2 < n := by omega
  have i3 : i + 3 < n := by omega
  have i4 : i + 4 < n := by omega
  have i5 : i + 5 < n := by omega
  refine ⟨M2, ?_, p4⟩
  simp (disch := omega) only [st_225_478, st_225_478N, st_225_479, st_225_480, st_225_481, st_225_482, st_225_483, st_225_484, st_225_487, st_225_487N, st_225_488, st_225_489, st_225_490, st_225_491, st_225_492, st_225_493, st_225_496, st_225_499, st_225_500, ini_225, fs_cl, fs_len, fs_rf, fs_M, fs_put, fs_cpy, ↓reduceIte, rv_ref, true_or, or_true, true_and, and_true, nI_ltI, ix_nI, nI_clamp, ps_i, ps_n, Option.bind_some, sm_0, sm_1, sm_2, sm_3, sm_4, sto_0, sto_1, sto_2, sto_3, sto_4, sto_5, sto_6, sto_7, sto_8, sto_9, sto_10, sto_11, sto_12, sto_13, sto_14, nlo_n, nlo_i, nlo_r, nlo_0, nlo_l, and_self, or_self, Nat.reduceEqDiff, Nat.reduceLT, Nat.reduceLeDiff, Nat.one_ne_zero, Nat.zero_ne_one, l1, l2, w0, m0, nI_add, i1, i2, i3, i4, i5, p1, p5, p2, self_t]
theorem lw_9 (hh : Hd h) (hL : hC h 1003 = 22 ∧ hN h 1003 = n) (hI : INv M) (hi : i + 6 ≤ n) (hn : n ≤ 3072) {e : Nat} (he : 100 ≤ e) : ∃ M2, j_X e 225 501 [some (.ref 1003), some (.ref 1), some (.ref 115), some (.int (nI i))] [] (FS h M) = j_X e 225 1411 [some (.ref 1003), some (.ref 1), some (.ref 115), some (.int (nI i))] [] (FS h M2) ∧ INv M2 := by
  obtain ⟨E, z, K0, K1, T, W, hE⟩ := hI
  obtain ⟨v, M1, M2, p1, p2, p3, p4⟩ := g_feed hh hE (((M 1003 (i + 1)).toInt64 <<< ((nI 32).toInt64 &&& 63)) ||| ((M 1003 (i + 2)).toInt64 &&& lN 4294967295)) (M 1003 (i + 3)) e he
  have w0 := hh.1.1
  have m0 := hh.2.2.2.2.2.2.2.1.1
  have l1 := hL.1
  have l2 := hL.2
  have p5 : ∀ k, M1 1003 k = M 1003 k := fun k => congrFun p3 k
  have i1 : i + 1 < n := by omega
  have i2 : i + 2 < n := by omega
  have i3 : i + 3 < n := by omega
  have i4 : i + 4 < n := by omega
  have i5 : i + 5 < n := by omega
  refine ⟨M2, ?_, p4⟩
  simp (disch := omega) only [st_225_501, st_225_501N, st_225_502, st_225_503, st_225_504, st_225_505, st_225_506, st_225_507, st_225_508, st_225_510, st_225_511, st_225_512, st_225_513, st_225_514, st_225_515, st_225_516, st_225_517, st_225_520, st_225_521, st_225_522, st_225_523, st_225_524, st_225_525, st_225_526, st_225_527, st_225_530, st_225_530N, st_225_531, st_225_532, st_225_533, st_225_534, st_225_535, st_225_536, st_225_537, st_225_539, st_225_540, st_225_541, st_225_542, st_225_543, st_225_544, st_225_545, st_225_546, st_225_549, st_225_550, st_225_551, st_225_552, st_225_553, st_225_554, st_225_555, st_225_556, st_225_559, st_225_562, st_225_563, ini_225, fs_cl, fs_len, fs_rf, fs_M, fs_put, fs_cpy, ↓reduceIte, rv_ref, true_or, or_true, true_and, and_true, nI_ltI, ix_nI, nI_clamp, ps_i, ps_n, Option.bind_some, sm_0, sm_1, sm_2, sm_3, sm_4, sto_0, sto_1, sto_2, sto_3, sto_4, sto_5, sto_6, sto_7, sto_8, sto_9, sto_10, sto_11, sto_12, sto_13, sto_14, nlo_n, nlo_i, nlo_r, nlo_0, nlo_l, and_self, or_self, Nat.reduceEqDiff, Nat.reduceLT, Nat.reduceLeDiff, Nat.one_ne_zero, Nat.zero_ne_one, l1, l2, w0, m0, nI_add, i1, i2, i3, i4, i5, p1, p5, p2, self_t]
theorem lw_10 (hh : Hd h) (hL : hC h 1003 = 22 ∧ hN h 1003 = n) (hI : INv M) (hi : i + 6 ≤ n) (hn : n ≤ 3072) {e : Nat} (he : 100 ≤ e) : ∃ M2, j_X e 225 564 [some (.ref 1003), some (.ref 1), some (.ref 115), some (.int (nI i))] [] (FS h M) = j_X e 225 1411 [some (.ref 1003), some (.ref 1), some (.ref 115), some (.int (nI i))] [] (FS h M2) ∧ INv M2 := by
  obtain ⟨E, z, K0, K1, T, W, hE⟩ := hI
  obtain ⟨v, M1, M2, p1, p2, p3, p4⟩ := g_text hh hE (M 1003 (i + 1)) e he
  have w0 := hh.1.1
  have m0 := hh.2.2.2.2.2.2.2.1.1
  have l1 := hL.1
  have l2 := hL.2
  have p5 : ∀ k, M1 1003 k = M 1003 k := fun k => congrFun p3 k
  have i1 : i + 1 < n := by omega
  have i2 : i + 2 < n := by omega
  have i3 : i + 3 < n := by omega
  have i4 : i + 4 < n := by omega
  have i5 : i + 5 < n := by omega
  refine ⟨M2, ?_, p4⟩
  simp (disch := omega) only [st_225_564, st_225_564N, st_225_565, st_225_566, st_225_567, st_225_568, st_225_569, st_225_570, st_225_573, st_225_573N, st_225_574, st_225_575, st_225_576, st_225_577, st_225_578, st_225_579, st_225_582, st_225_585, st_225_586, ini_225, fs_cl, fs_len, fs_rf, fs_M, fs_put, fs_cpy, ↓reduceIte, rv_ref, true_or, or_true, true_and, and_true, nI_ltI, ix_nI, nI_clamp, ps_i, ps_n, Option.bind_some, sm_0, sm_1, sm_2, sm_3, sm_4, sto_0, sto_1, sto_2, sto_3, sto_4, sto_5, sto_6, sto_7, sto_8, sto_9, sto_10, sto_11, sto_12, sto_13, sto_14, nlo_n, nlo_i, nlo_r, nlo_0, nlo_l, and_self, or_self, Nat.reduceEqDiff, Nat.reduceLT, Nat.reduceLeDiff, Nat.one_ne_zero, Nat.zero_ne_one, l1, l2, w0, m0, nI_add, i1, i2, i3, i4, i5, p1, p5, p2, self_t]
theorem lw_11 (hh : Hd h) (hL : hC h 1003 = 22 ∧ hN h 1003 = n) (hI : INv M) (hi : i + 6 ≤ n) (hn : n ≤ 3072) {e : Nat} (he : 100 ≤ e) : ∃ M2, j_X e 225 587 [some (.ref 1003), some (.ref 1), some (.ref 115), some (.int (nI i))] [] (FS h M) = j_X e 225 1411 [some (.ref 1003), some (.ref 1), some (.ref 115), some (.int (nI i))] [] (FS h M2) ∧ INv M2 := by
  obtain ⟨E, z, K0, K1, T, W, hE⟩ := hI
  obtain ⟨v, M1, M2, p1, p2, p3, p4⟩ := g_law hh hE (M 1003 (i + 1)) (M 1003 (i + 2)) (M 1003 (i + 3)) (M 1003 (i + 4)) e he
  have w0 := hh.1.1
  have m0 := hh.2.2.2.2.2.2.2.1.1
  have l1 := hL.1
  have l2 := hL.2
  have p5 : ∀ k, M1 1003 k = M 1003 k := fun k => congrFun p3 k
  have i1 : i + 1 < n := by omega
  have i2 : i + 2 < n := by omega
  have i3 : i + 3 < n := by omega
  have i4 : i + 4 < n := by omega
  have i5 : i + 5 < n := by omega
  refine ⟨M2, ?_, p4⟩
  simp (disch := omega) only [st_225_587, st_225_587N, st_225_588, st_225_589, st_225_590, st_225_591, st_225_592, st_225_593, st_225_594, st_225_595, st_225_596, st_225_597, st_225_598, st_225_599, st_225_600, st_225_601, st_225_602, st_225_603, st_225_604, st_225_605, st_225_606, st_225_607, st_225_608, st_225_611, st_225_611N, st_225_612, st_225_613, st_225_614, st_225_615, st_225_616, st_225_617, st_225_618, st_225_619, st_225_620, st_225_621, st_225_622, st_225_623, st_225_624, st_225_625, st_225_626, st_225_627, st_225_628, st_225_629, st_225_630, st_225_631, st_225_632, st_225_635, st_225_638, st_225_639, ini_225, fs_cl, fs_len, fs_rf, fs_M, fs_put, fs_cpy, ↓reduceIte, rv_ref, true_or, or_true, true_and, and_true, nI_ltI, ix_nI, nI_clamp, ps_i, ps_n, Option.bind_some, sm_0, sm_1, sm_2, sm_3, sm_4, sto_0, sto_1, sto_2, sto_3, sto_4, sto_5, sto_6, sto_7, sto_8, sto_9, sto_10, sto_11, sto_12, sto_13, sto_14, nlo_n, nlo_i, nlo_r, nlo_0, nlo_l, and_self, or_self, Nat.reduceEqDiff, Nat.reduceLT, Nat.reduceLeDiff, Nat.one_ne_zero, Nat.zero_ne_one, l1, l2, w0, m0, nI_add, i1, i2, i3, i4, i5, p1, p5, p2, self_t]
theorem lw_12 (hh : Hd h) (hL : hC h 1003 = 22 ∧ hN h 1003 = n) (hI : INv M) (hi : i + 6 ≤ n) (hn : n ≤ 3072) {e : Nat} (he : 100 ≤ e) : ∃ M2, j_X e 225 640 [some (.ref 1003), some (.ref 1), some (.ref 115), some (.int (nI i))] [] (FS h M) = j_X e 225 1411 [some (.ref 1003), some (.ref 1), some (.ref 115), some (.int (nI i))] [] (FS h M2) ∧ INv M2 := by
  obtain ⟨E, z, K0, K1, T, W, hE⟩ := hI
  obtain ⟨v, M1, M2, p1, p2, p3, p4⟩ := g_worth hh hE (M 1003 (i + 1)) (M 1003 (i + 2)) e he
  have w0 := hh.1.1
  have m0 := hh.2.2.2.2.2.2.2.1.1
  have l1 := hL.1
  have l2 := hL.2
  have p5 : ∀ k, M1 1003 k = M 1003 k := fun k => congrFun p3 k
  have i1 : i + 1 < n := by omega
  have i2 : i + 2 < n := by omega
  have i3 : i + 3 < n := by omega
  have i4 : i + 4 < n := by omega
  have i5 : i + 5 < n := by omega
  refine ⟨M2, ?_, p4⟩
  simp (disch := omega) only [st_225_640, st_225_640N, st_225_641, st_225_642, st_225_643, st_225_644, st_225_645, st_225_646, st_225_647, st_225_648, st_225_649, st_225_650, st_225_651, st_225_654, st_225_654N, st_225_655, st_225_656, st_225_657, st_225_658, st_225_659, st_225_660, st_225_661, st_225_662, st_225_663, st_225_664, st_225_665, st_225_668, st_225_671, st_225_672, ini_225, fs_cl, fs_len, fs_rf, fs_M, fs_put, fs_cpy, ↓reduceIte, rv_ref, true_or, or_true, true_and, and_true, nI_ltI, ix_nI, nI_clamp, ps_i, ps_n, Option.bind_some, sm_0, sm_1, sm_2, sm_3, sm_4, sto_0, sto_1, sto_2, sto_3, sto_4, sto_5, sto_6, sto_7, sto_8, sto_9, sto_10, sto_11, sto_12, sto_13, sto_14, nlo_n, nlo_i, nlo_r, nlo_0, nlo_l, and_self, or_self, Nat.reduceEqDiff, Nat.reduceLT, Nat.reduceLeDiff, Nat.one_ne_zero, Nat.zero_ne_one, l1, l2, w0, m0, nI_add, i1, i2, i3, i4, i5, p1, p5, p2, self_t]
theorem lw_13 (hh : Hd h) (hL : hC h 1003 = 22 ∧ hN h 1003 = n) (hI : INv M) (hi : i + 6 ≤ n) (hn : n ≤ 3072) {e : Nat} (he : 100 ≤ e) : ∃ M2, j_X e 225 673 [some (.ref 1003), some (.ref 1), some (.ref 115), some (.int (nI i))] [] (FS h M) = j_X e 225 1411 [some (.ref 1003), some (.ref 1), some (.ref 115), some (.int (nI i))] [] (FS h M2) ∧ INv M2 := by
  obtain ⟨E, z, K0, K1, T, W, hE⟩ := hI
  obtain ⟨v, M1, M2, p1, p2, p3, p4⟩ := g_sale hh hE (M 1003 (i + 1)) (M 1003 (i + 2)) e he
  have w0 := hh.1.1
  have m0 := hh.2.2.2.2.2.2.2.1.1
  have l1 := hL.1
  have l2 := hL.2
  have p5 : ∀ k, M1 1003 k = M 1003 k := fun k => congrFun p3 k
  have i1 : i + 1 < n := by omega
  have i2 : i + 2 < n := by omega
  have i3 : i + 3 < n := by omega
  have i4 : i + 4 < n := by omega
  have i5 : i + 5 < n := by omega
  refine ⟨M2, ?_, p4⟩
  simp (disch := omega) only [st_225_673, st_225_673N, st_225_674, st_225_675, st_225_676, st_225_677, st_225_678, st_225_679, st_225_680, st_225_681, st_225_682, st_225_683, st_225_684, st_225_687, st_225_687N, st_225_688, st_225_689, st_225_690, st_225_691, st_225_692, st_225_693, st_225_694, st_225_695, st_225_696, st_225_697, st_225_698, st_225_701, st_225_704, st_225_705, ini_225, fs_cl, fs_len, fs_rf, fs_M, fs_put, fs_cpy, ↓reduceIte, rv_ref, true_or, or_true, true_and, and_true, nI_ltI, ix_nI, nI_clamp, ps_i, ps_n, Option.bind_some, sm_0, sm_1, sm_2, sm_3, sm_4, sto_0, sto_1, sto_2, sto_3, sto_4, sto_5, sto_6, sto_7, sto_8, sto_9, sto_10, sto_11, sto_12, sto_13, sto_14, nlo_n, nlo_i, nlo_r, nlo_0, nlo_l, and_self, or_self, Nat.reduceEqDiff, Nat.reduceLT, Nat.reduceLeDiff, Nat.one_ne_zero, Nat.zero_ne_one, l1, l2, w0, m0, nI_add, i1, i2, i3, i4, i5, p1, p5, p2, self_t]
theorem lw_14 (hh : Hd h) (hL : hC h 1003 = 22 ∧ hN h 1003 = n) (hI : INv M) (hi : i + 6 ≤ n) (hn : n ≤ 3072) {e : Nat} (he : 100 ≤ e) : ∃ M2, j_X e 225 706 [some (.ref 1003), some (.ref 1), some (.ref 115), some (.int (nI i))] [] (FS h M) = j_X e 225 1411 [some (.ref 1003), some (.ref 1), some (.ref 115), some (.int (nI i))] [] (FS h M2) ∧ INv M2 := by
  obtain ⟨E, z, K0, K1, T, W, hE⟩ := hI
  obtain ⟨v, M1, M2, p1, p2, p3, p4⟩ := g_days hh hE (M 1003 (i + 1)) e he
  have w0 := hh.1.1
  have m0 := hh.2.2.2.2.2.2.2.1.1
  have l1 := hL.1
  have l2 := hL.2
  have p5 : ∀ k, M1 1003 k = M 1003 k := fun k => congrFun p3 k
  have i1 : i + 1 < n := by omega
  have i2 : i + 2 < n := by omega
  have i3 : i + 3 < n := by omega
  have i4 : i + 4 < n := by omega
  have i5 : i + 5 < n := by omega
  refine ⟨M2, ?_, p4⟩
  simp (disch := omega) only [st_225_706, st_225_706N, st_225_707, st_225_708, st_225_709, st_225_710, st_225_711, st_225_712, st_225_715, st_225_715N, st_225_716, st_225_717, st_225_718, st_225_719, st_225_720, st_225_721, st_225_724, st_225_727, st_225_728, ini_225, fs_cl, fs_len, fs_rf, fs_M, fs_put, fs_cpy, ↓reduceIte, rv_ref, true_or, or_true, true_and, and_true, nI_ltI, ix_nI, nI_clamp, ps_i, ps_n, Option.bind_some, sm_0, sm_1, sm_2, sm_3, sm_4, sto_0, sto_1, sto_2, sto_3, sto_4, sto_5, sto_6, sto_7, sto_8, sto_9, sto_10, sto_11, sto_12, sto_13, sto_14, nlo_n, nlo_i, nlo_r, nlo_0, nlo_l, and_self, or_self, Nat.reduceEqDiff, Nat.reduceLT, Nat.reduceLeDiff, Nat.one_ne_zero, Nat.zero_ne_one, l1, l2, w0, m0, nI_add, i1, i2, i3, i4, i5, p1, p5, p2, self_t]
theorem lw_15 (hh : Hd h) (hL : hC h 1003 = 22 ∧ hN h 1003 = n) (hI : INv M) (hi : i + 6 ≤ n) (hn : n ≤ 3072) {e : Nat} (he : 100 ≤ e) : ∃ M2, j_X e 225 729 [some (.ref 1003), some (.ref 1), some (.ref 115), some (.int (nI i))] [] (FS h M) = j_X e 225 1411 [some (.ref 1003), some (.ref 1), some (.ref 115), some (.int (nI i))] [] (FS h M2) ∧ INv M2 := by
  obtain ⟨E, z, K0, K1, T, W, hE⟩ := hI
  obtain ⟨v, M1, M2, p1, p2, p3, p4⟩ := g_loose hh hE (M 1003 (i + 1)) e he
  have w0 := hh.1.1
  have m0 := hh.2.2.2.2.2.2.2.1.1
  have l1 := hL.1
  have l2 := hL.2
  have p5 : ∀ k, M1 1003 k = M 1003 k := fun k => congrFun p3 k
  have i1 : i + 1 < n := by omega
  have i2 : i + 2 < n := by omega
  have i3 : i + 3 < n := by omega
  have i4 : i + 4 < n := by omega
  have i5 : i + 5 < n := by omega
  refine ⟨M2, ?_, p4⟩
  simp (disch := omega) only [st_225_729, st_225_729N, st_225_730, st_225_731, st_225_732, st_225_733, st_225_734, st_225_735, st_225_738, st_225_738N, st_225_739, st_225_740, st_225_741, st_225_742, st_225_743, st_225_744, st_225_747, st_225_750, st_225_751, ini_225, fs_cl, fs_len, fs_rf, fs_M, fs_put, fs_cpy, ↓reduceIte, rv_ref, true_or, or_true, true_and, and_true, nI_ltI, ix_nI, nI_clamp, ps_i, ps_n, Option.bind_some, sm_0, sm_1, sm_2, sm_3, sm_4, sto_0, sto_1, sto_2, sto_3, sto_4, sto_5, sto_6, sto_7, sto_8, sto_9, sto_10, sto_11, sto_12, sto_13, sto_14, nlo_n, nlo_i, nlo_r, nlo_0, nlo_l, and_self, or_self, Nat.reduceEqDiff, Nat.reduceLT, Nat.reduceLeDiff, Nat.one_ne_zero, Nat.zero_ne_one, l1, l2, w0, m0, nI_add, i1, i2, i3, i4, i5, p1, p5, p2, self_t]
theorem lw_16 (hh : Hd h) (hL : hC h 1003 = 22 ∧ hN h 1003 = n) (hI : INv M) (hi : i + 6 ≤ n) (hn : n ≤ 3072) {e : Nat} (he : 100 ≤ e) : ∃ M2, j_X e 225 752 [some (.ref 1003), some (.ref 1), some (.ref 115), some (.int (nI i))] [] (FS h M) = j_X e 225 1411 [some (.ref 1003), some (.ref 1), some (.ref 115), some (.int (nI i))] [] (FS h M2) ∧ INv M2 := by
  obtain ⟨E, z, K0, K1, T, W, hE⟩ := hI
  obtain ⟨v, M1, M2, p1, p2, p3, p4⟩ := g_worst hh hE (M 1003 (i + 1)) (M 1003 (i + 2)) e he
  have w0 := hh.1.1
  have m0 := hh.2.2.2.2.2.2.2.1.1
  have l1 := hL.1
  have l2 := hL.2
  have p5 : ∀ k, M1 1003 k = M 1003 k := fun k => congrFun p3 k
  have i1 : i + 1 < n := by omega
  have i2 : i + 2 < n := by omega
  have i3 : i + 3 < n := by omega
  have i4 : i + 4 < n := by omega
  have i5 : i + 5 < n := by omega
  refine ⟨M2, ?_, p4⟩
  simp (disch := omega) only [st_225_752, st_225_752N, st_225_753, st_225_754, st_225_755, st_225_756, st_225_757, st_225_758, st_225_759, st_225_760, st_225_761, st_225_762, st_225_763, st_225_766, st_225_766N, st_225_767, st_225_768, st_225_769, st_225_770, st_225_771, st_225_772, st_225_773, st_225_774, st_225_775, st_225_776, st_225_777, st_225_780, st_225_783, st_225_784, ini_225, fs_cl, fs_len, fs_rf, fs_M, fs_put, fs_cpy, ↓reduceIte, rv_ref, true_or, or_true, true_and, and_true, nI_ltI, ix_nI, nI_clamp, ps_i, ps_n, Option.bind_some, sm_0, sm_1, sm_2, sm_3, sm_4, sto_0, sto_1, sto_2, sto_3, sto_4, sto_5, sto_6, sto_7, sto_8, sto_9, sto_10, sto_11, sto_12, sto_13, sto_14, nlo_n, nlo_i, nlo_r, nlo_0, nlo_l, and_self, or_self, Nat.reduceEqDiff, Nat.reduceLT, Nat.reduceLeDiff, Nat.one_ne_zero, Nat.zero_ne_one, l1, l2, w0, m0, nI_add, i1, i2, i3, i4, i5, p1, p5, p2, self_t]
theorem lw_17 (hh : Hd h) (hL : hC h 1003 = 22 ∧ hN h 1003 = n) (hI : INv M) (hi : i + 6 ≤ n) (hn : n ≤ 3072) {e : Nat} (he : 100 ≤ e) : ∃ M2, j_X e 225 785 [some (.ref 1003), some (.ref 1), some (.ref 115), some (.int (nI i))] [] (FS h M) = j_X e 225 1411 [some (.ref 1003), some (.ref 1), some (.ref 115), some (.int (nI i))] [] (FS h M2) ∧ INv M2 := by
  obtain ⟨E, z, K0, K1, T, W, hE⟩ := hI
  obtain ⟨v, M1, M2, p1, p2, p3, p4⟩ := g_pays hh hE (M 1003 (i + 1)) (M 1003 (i + 2)) (M 1003 (i + 3)) e he
  have w0 := hh.1.1
  have m0 := hh.2.2.2.2.2.2.2.1.1
  have l1 := hL.1
  have l2 := hL.2
  have p5 : ∀ k, M1 1003 k = M 1003 k := fun k => congrFun p3 k
  have i1 : i + 1 < n := by omega
  have i2 : i + 2 < n := by omega
  have i3 : i + 3 < n := by omega
  have i4 : i + 4 < n := by omega
  have i5 : i + 5 < n := by omega
  refine ⟨M2, ?_, p4⟩
  simp (disch := omega) only [st_225_785, st_225_785N, st_225_786, st_225_787, st_225_788, st_225_789, st_225_790, st_225_791, st_225_792, st_225_793, st_225_794, st_225_795, st_225_796, st_225_797, st_225_798, st_225_799, st_225_800, st_225_801, st_225_804, st_225_804N, st_225_805, st_225_806, st_225_807, st_225_808, st_225_809, st_225_810, st_225_811, st_225_812, st_225_813, st_225_814, st_225_815, st_225_816, st_225_817, st_225_818, st_225_819, st_225_820, st_225_823, st_225_826, st_225_827, ini_225, fs_cl, fs_len, fs_rf, fs_M, fs_put, fs_cpy, ↓reduceIte, rv_ref, true_or, or_true, true_and, and_true, nI_ltI, ix_nI, nI_clamp, ps_i, ps_n, Option.bind_some, sm_0, sm_1, sm_2, sm_3, sm_4, sto_0, sto_1, sto_2, sto_3, sto_4, sto_5, sto_6, sto_7, sto_8, sto_9, sto_10, sto_11, sto_12, sto_13, sto_14, nlo_n, nlo_i, nlo_r, nlo_0, nlo_l, and_self, or_self, Nat.reduceEqDiff, Nat.reduceLT, Nat.reduceLeDiff, Nat.one_ne_zero, Nat.zero_ne_one, l1, l2, w0, m0, nI_add, i1, i2, i3, i4, i5, p1, p5, p2, self_t]
theorem lw_18 (hh : Hd h) (hL : hC h 1003 = 22 ∧ hN h 1003 = n) (hI : INv M) (hi : i + 6 ≤ n) (hn : n ≤ 3072) {e : Nat} (he : 100 ≤ e) : ∃ M2, j_X e 225 828 [some (.ref 1003), some (.ref 1), some (.ref 115), some (.int (nI i))] [] (FS h M) = j_X e 225 1411 [some (.ref 1003), some (.ref 1), some (.ref 115), some (.int (nI i))] [] (FS h M2) ∧ INv M2 := by
  obtain ⟨E, z, K0, K1, T, W, hE⟩ := hI
  obtain ⟨v, M1, M2, p1, p2, p3, p4⟩ := g_launder hh hE (M 1003 (i + 1)) (M 1003 (i + 2)) (M 1003 (i + 3)) e he
  have w0 := hh.1.1
  have m0 := hh.2.2.2.2.2.2.2.1.1
  have l1 := hL.1
  have l2 := hL.2
  have p5 : ∀ k, M1 1003 k = M 1003 k := fun k => congrFun p3 k
  have i1 : i + 1 < n := by omega
  have i2 : i + 2 < n := by omega
  have i3 : i + 3 < n := by omega
  have i4 : i + 4 < n := by omega
  have i5 : i + 5 < n := by omega
  refine ⟨M2, ?_, p4⟩
  simp (disch := omega) only [st_225_828, st_225_828N, st_225_829, st_225_830, st_225_831, st_225_832, st_225_833, st_225_834, st_225_835, st_225_836, st_225_837, st_225_838, st_225_839, st_225_840, st_225_841, st_225_842, st_225_843, st_225_844, st_225_847, st_225_847N, st_225_848, st_225_849, st_225_850, st_225_851, st_225_852, st_225_853, st_225_854, st_225_855, st_225_856, st_225_857, st_225_858, st_225_859, st_225_860, st_225_861, st_225_862, st_225_863, st_225_866, st_225_869, st_225_870, ini_225, fs_cl, fs_len, fs_rf, fs_M, fs_put, fs_cpy, ↓reduceIte, rv_ref, true_or, or_true, true_and, and_true, nI_ltI, ix_nI, nI_clamp, ps_i, ps_n, Option.bind_some, sm_0, sm_1, sm_2, sm_3, sm_4, sto_0, sto_1, sto_2, sto_3, sto_4, sto_5, sto_6, sto_7, sto_8, sto_9, sto_10, sto_11, sto_12, sto_13, sto_14, nlo_n, nlo_i, nlo_r, nlo_0, nlo_l, and_self, or_self, Nat.reduceEqDiff, Nat.reduceLT, Nat.reduceLeDiff, Nat.one_ne_zero, Nat.zero_ne_one, l1, l2, w0, m0, nI_add, i1, i2, i3, i4, i5, p1, p5, p2, self_t]
theorem lw_19 (hh : Hd h) (hL : hC h 1003 = 22 ∧ hN h 1003 = n) (hI : INv M) (hi : i + 6 ≤ n) (hn : n ≤ 3072) {e : Nat} (he : 100 ≤ e) : ∃ M2, j_X e 225 871 [some (.ref 1003), some (.ref 1), some (.ref 115), some (.int (nI i))] [] (FS h M) = j_X e 225 1411 [some (.ref 1003), some (.ref 1), some (.ref 115), some (.int (nI i))] [] (FS h M2) ∧ INv M2 := by
  obtain ⟨E, z, K0, K1, T, W, hE⟩ := hI
  obtain ⟨v, M1, M2, p1, p2, p3, p4⟩ := g_hands hh hE (M 1003 (i + 1)) (M 1003 (i + 2)) e he
  have w0 := hh.1.1
  have m0 := hh.2.2.2.2.2.2.2.1.1
  have l1 := hL.1
  have l2 := hL.2
  have p5 : ∀ k, M1 1003 k = M 1003 k := fun k => congrFun p3 k
  have i1 : i + 1 < n := by omega
  have i2 : i + 2 < n := by omega
  have i3 : i + 3 < n := by omega
  have i4 : i + 4 < n := by omega
  have i5 : i + 5 < n := by omega
  refine ⟨M2, ?_, p4⟩
  simp (disch := omega) only [st_225_871, st_225_871N, st_225_872, st_225_873, st_225_874, st_225_875, st_225_876, st_225_877, st_225_878, st_225_879, st_225_880, st_225_881, st_225_882, st_225_885, st_225_885N, st_225_886, st_225_887, st_225_888, st_225_889, st_225_890, st_225_891, st_225_892, st_225_893, st_225_894, st_225_895, st_225_896, st_225_899, st_225_902, st_225_903, ini_225, fs_cl, fs_len, fs_rf, fs_M, fs_put, fs_cpy, ↓reduceIte, rv_ref, true_or, or_true, true_and, and_true, nI_ltI, ix_nI, nI_clamp, ps_i, ps_n, Option.bind_some, sm_0, sm_1, sm_2, sm_3, sm_4, sto_0, sto_1, sto_2, sto_3, sto_4, sto_5, sto_6, sto_7, sto_8, sto_9, sto_10, sto_11, sto_12, sto_13, sto_14, nlo_n, nlo_i, nlo_r, nlo_0, nlo_l, and_self, or_self, Nat.reduceEqDiff, Nat.reduceLT, Nat.reduceLeDiff, Nat.one_ne_zero, Nat.zero_ne_one, l1, l2, w0, m0, nI_add, i1, i2, i3, i4, i5, p1, p5, p2, self_t]
theorem lw_20 (hh : Hd h) (hL : hC h 1003 = 22 ∧ hN h 1003 = n) (hI : INv M) (hi : i + 6 ≤ n) (hn : n ≤ 3072) {e : Nat} (he : 100 ≤ e) : ∃ M2, j_X e 225 904 [some (.ref 1003), some (.ref 1), some (.ref 115), some (.int (nI i))] [] (FS h M) = j_X e 225 1411 [some (.ref 1003), some (.ref 1), some (.ref 115), some (.int (nI i))] [] (FS h M2) ∧ INv M2 := by
  obtain ⟨E, z, K0, K1, T, W, hE⟩ := hI
  obtain ⟨v, M1, M2, p1, p2, p3, p4⟩ := g_round hh hE (M 1003 (i + 1)) e he
  have w0 := hh.1.1
  have m0 := hh.2.2.2.2.2.2.2.1.1
  have l1 := hL.1
  have l2 := hL.2
  have p5 : ∀ k, M1 1003 k = M 1003 k := fun k => congrFun p3 k
  have i1 : i + 1 < n := by omega
  have i2 : i + 2 < n := by omega
  have i3 : i + 3 < n := by omega
  have i4 : i + 4 < n := by omega
  have i5 : i + 5 < n := by omega
  refine ⟨M2, ?_, p4⟩
  simp (disch := omega) only [st_225_904, st_225_904N, st_225_905, st_225_906, st_225_907, st_225_908, st_225_909, st_225_910, st_225_913, st_225_913N, st_225_914, st_225_915, st_225_916, st_225_917, st_225_918, st_225_919, st_225_922, st_225_925, st_225_926, ini_225, fs_cl, fs_len, fs_rf, fs_M, fs_put, fs_cpy, ↓reduceIte, rv_ref, true_or, or_true, true_and, and_true, nI_ltI, ix_nI, nI_clamp, ps_i, ps_n, Option.bind_some, sm_0, sm_1, sm_2, sm_3, sm_4, sto_0, sto_1, sto_2, sto_3, sto_4, sto_5, sto_6, sto_7, sto_8, sto_9, sto_10, sto_11, sto_12, sto_13, sto_14, nlo_n, nlo_i, nlo_r, nlo_0, nlo_l, and_self, or_self, Nat.reduceEqDiff, Nat.reduceLT, Nat.reduceLeDiff, Nat.one_ne_zero, Nat.zero_ne_one, l1, l2, w0, m0, nI_add, i1, i2, i3, i4, i5, p1, p5, p2, self_t]
theorem lw_21 (hh : Hd h) (hL : hC h 1003 = 22 ∧ hN h 1003 = n) (hI : INv M) (hi : i + 6 ≤ n) (hn : n ≤ 3072) {e : Nat} (he : 100 ≤ e) : ∃ M2, j_X e 225 927 [some (.ref 1003), some (.ref 1), some (.ref 115), some (.int (nI i))] [] (FS h M) = j_X e 225 1411 [some (.ref 1003), some (.ref 1), some (.ref 115), some (.int (nI i))] [] (FS h M2) ∧ INv M2 := by
  obtain ⟨E, z, K0, K1, T, W, hE⟩ := hI
  obtain ⟨v, M1, M2, p1, p2, p3, p4⟩ := g_home hh hE  e he
  have w0 := hh.1.1
  have m0 := hh.2.2.2.2.2.2.2.1.1
  have l1 := hL.1
  have l2 := hL.2
  have p5 : ∀ k, M1 1003 k = M 1003 k := fun k => congrFun p3 k
  have i1 : i + 1 < n := by omega
  have i2 : i + 2 < n := by omega
  have i3 : i + 3 < n := by omega
  have i4 : i + 4 < n := by omega
  have i5 : i + 5 < n := by omega
  refine ⟨M2, ?_, p4⟩
  simp (disch := omega) only [st_225_927, st_225_927N, st_225_928, st_225_931, st_225_931N, st_225_932, st_225_935, st_225_938, st_225_939, ini_225, fs_cl, fs_len, fs_rf, fs_M, fs_put, fs_cpy, ↓reduceIte, rv_ref, true_or, or_true, true_and, and_true, nI_ltI, ix_nI, nI_clamp, ps_i, ps_n, Option.bind_some, sm_0, sm_1, sm_2, sm_3, sm_4, sto_0, sto_1, sto_2, sto_3, sto_4, sto_5, sto_6, sto_7, sto_8, sto_9, sto_10, sto_11, sto_12, sto_13, sto_14, nlo_n, nlo_i, nlo_r, nlo_0, nlo_l, and_self, or_self, Nat.reduceEqDiff, Nat.reduceLT, Nat.reduceLeDiff, Nat.one_ne_zero, Nat.zero_ne_one, l1, l2, w0, m0, nI_add, i1, i2, i3, i4, i5, p1, p5, p2, self_t]
theorem lw_22 (hh : Hd h) (hL : hC h 1003 = 22 ∧ hN h 1003 = n) (hI : INv M) (hi : i + 6 ≤ n) (hn : n ≤ 3072) {e : Nat} (he : 100 ≤ e) : ∃ M2, j_X e 225 940 [some (.ref 1003), some (.ref 1), some (.ref 115), some (.int (nI i))] [] (FS h M) = j_X e 225 1411 [some (.ref 1003), some (.ref 1), some (.ref 115), some (.int (nI i))] [] (FS h M2) ∧ INv M2 := by
  obtain ⟨E, z, K0, K1, T, W, hE⟩ := hI
  obtain ⟨v, M1, M2, p1, p2, p3, p4⟩ := g_outcasts hh hE  e he
  have w0 := hh.1.1
  have m0 := hh.2.2.2.2.2.2.2.1.1
  have l1 := hL.1
  have l2 := hL.2
  have p5 : ∀ k, M1 1003 k = M 1003 k := fun k => congrFun p3 k
  have i1 : i + 1 < n := by omega
  have i2 : i + 2 < n := by omega
  have i3 : i + 3 < n := by omega
  have i4 : i + 4 < n := by omega
  have i5 : i + 5 < n := by omega
  refine ⟨M2, ?_, p4⟩
  simp (disch := omega) only [st_225_940, st_225_940N, st_225_941, st_225_944, st_225_944N, st_225_945, st_225_948, st_225_951, st_225_952, ini_225, fs_cl, fs_len, fs_rf, fs_M, fs_put, fs_cpy, ↓reduceIte, rv_ref, true_or, or_true, true_and, and_true, nI_ltI, ix_nI, nI_clamp, ps_i, ps_n, Option.bind_some, sm_0, sm_1, sm_2, sm_3, sm_4, sto_0, sto_1, sto_2, sto_3, sto_4, sto_5, sto_6, sto_7, sto_8, sto_9, sto_10, sto_11, sto_12, sto_13, sto_14, nlo_n, nlo_i, nlo_r, nlo_0, nlo_l, and_self, or_self, Nat.reduceEqDiff, Nat.reduceLT, Nat.reduceLeDiff, Nat.one_ne_zero, Nat.zero_ne_one, l1, l2, w0, m0, nI_add, i1, i2, i3, i4, i5, p1, p5, p2, self_t]
theorem lw_23 (hh : Hd h) (hL : hC h 1003 = 22 ∧ hN h 1003 = n) (hI : INv M) (hi : i + 6 ≤ n) (hn : n ≤ 3072) {e : Nat} (he : 100 ≤ e) : ∃ M2, j_X e 225 953 [some (.ref 1003), some (.ref 1), some (.ref 115), some (.int (nI i))] [] (FS h M) = j_X e 225 1411 [some (.ref 1003), some (.ref 1), some (.ref 115), some (.int (nI i))] [] (FS h M2) ∧ INv M2 := by
  obtain ⟨E, z, K0, K1, T, W, hE⟩ := hI
  obtain ⟨v, M1, M2, p1, p2, p3, p4⟩ := g_takers hh hE (M 1003 (i + 1)) (M 1003 (i + 2)) e he
  have w0 := hh.1.1
  have m0 := hh.2.2.2.2.2.2.2.1.1
  have l1 := hL.1
  have l2 := hL.2
  have p5 : ∀ k, M1 1003 k = M 1003 k := fun k => congrFun p3 k
  have i1 : i + 1 < n := by omega
  have i2 : i + 2 < n := by omega
  have i3 : i + 3 < n := by omega
  have i4 : i + 4 < n := by omega
  have i5 : i + 5 < n := by omega
  refine ⟨M2, ?_, p4⟩
  simp (disch := omega) only [st_225_953, st_225_953N, st_225_954, st_225_955, st_225_956, st_225_957, st_225_958, st_225_959, st_225_960, st_225_961, st_225_962, st_225_963, st_225_964, st_225_967, st_225_967N, st_225_968, st_225_969, st_225_970, st_225_971, st_225_972, st_225_973, st_225_974, st_225_975, st_225_976, st_225_977, st_225_978, st_225_981, st_225_984, st_225_985, ini_225, fs_cl, fs_len, fs_rf, fs_M, fs_put, fs_cpy, ↓reduceIte, rv_ref, true_or, or_true, true_and, and_true, nI_ltI, ix_nI, nI_clamp, ps_i, ps_n, Option.bind_some, sm_0, sm_1, sm_2, sm_3, sm_4, sto_0, sto_1, sto_2, sto_3, sto_4, sto_5, sto_6, sto_7, sto_8, sto_9, sto_10, sto_11, sto_12, sto_13, sto_14, nlo_n, nlo_i, nlo_r, nlo_0, nlo_l, and_self, or_self, Nat.reduceEqDiff, Nat.reduceLT, Nat.reduceLeDiff, Nat.one_ne_zero, Nat.zero_ne_one, l1, l2, w0, m0, nI_add, i1, i2, i3, i4, i5, p1, p5, p2, self_t]
theorem lw_24 (hh : Hd h) (hL : hC h 1003 = 22 ∧ hN h 1003 = n) (hI : INv M) (hi : i + 6 ≤ n) (hn : n ≤ 3072) {e : Nat} (he : 100 ≤ e) : ∃ M2, j_X e 225 986 [some (.ref 1003), some (.ref 1), some (.ref 115), some (.int (nI i))] [] (FS h M) = j_X e 225 1411 [some (.ref 1003), some (.ref 1), some (.ref 115), some (.int (nI i))] [] (FS h M2) ∧ INv M2 := by
  obtain ⟨E, z, K0, K1, T, W, hE⟩ := hI
  obtain ⟨v, M1, M2, p1, p2, p3, p4⟩ := g_tolls hh hE (M 1003 (i + 1)) (M 1003 (i + 2)) e he
  have w0 := hh.1.1
  have m0 := hh.2.2.2.2.2.2.2.1.1
  have l1 := hL.1
  have l2 := hL.2
  have p5 : ∀ k, M1 1003 k = M 1003 k := fun k => congrFun p3 k
  have i1 : i + 1 < n := by omega
  have i2 : i + 2 < n := by omega
  have i3 : i + 3 < n := by omega
  have i4 : i + 4 < n := by omega
  have i5 : i + 5 < n := by omega
  refine ⟨M2, ?_, p4⟩
  simp (disch := omega) only [st_225_986, st_225_986N, st_225_987, st_225_988, st_225_989, st_225_990, st_225_991, st_225_992, st_225_993, st_225_994, st_225_995, st_225_996, st_225_997, st_225_1000, st_225_1000N, st_225_1001, st_225_1002, st_225_1003, st_225_1004, st_225_1005, st_225_1006, st_225_1007, st_225_1008, st_225_1009, st_225_1010, st_225_1011, st_225_1014, st_225_1017, st_225_1018, ini_225, fs_cl, fs_len, fs_rf, fs_M, fs_put, fs_cpy, ↓reduceIte, rv_ref, true_or, or_true, true_and, and_true, nI_ltI, ix_nI, nI_clamp, ps_i, ps_n, Option.bind_some, sm_0, sm_1, sm_2, sm_3, sm_4, sto_0, sto_1, sto_2, sto_3, sto_4, sto_5, sto_6, sto_7, sto_8, sto_9, sto_10, sto_11, sto_12, sto_13, sto_14, nlo_n, nlo_i, nlo_r, nlo_0, nlo_l, and_self, or_self, Nat.reduceEqDiff, Nat.reduceLT, Nat.reduceLeDiff, Nat.one_ne_zero, Nat.zero_ne_one, l1, l2, w0, m0, nI_add, i1, i2, i3, i4, i5, p1, p5, p2, self_t]
theorem lw_25 (hh : Hd h) (hL : hC h 1003 = 22 ∧ hN h 1003 = n) (hI : INv M) (hi : i + 6 ≤ n) (hn : n ≤ 3072) {e : Nat} (he : 100 ≤ e) : ∃ M2, j_X e 225 1019 [some (.ref 1003), some (.ref 1), some (.ref 115), some (.int (nI i))] [] (FS h M) = j_X e 225 1411 [some (.ref 1003), some (.ref 1), some (.ref 115), some (.int (nI i))] [] (FS h M2) ∧ INv M2 := by
  obtain ⟨E, z, K0, K1, T, W, hE⟩ := hI
  obtain ⟨v, M1, M2, p1, p2, p3, p4⟩ := g_seed hh hE (M 1003 (i + 1)) e he
  have w0 := hh.1.1
  have m0 := hh.2.2.2.2.2.2.2.1.1
  have l1 := hL.1
  have l2 := hL.2
  have p5 : ∀ k, M1 1003 k = M 1003 k := fun k => congrFun p3 k
  have i1 : i + 1 < n := by omega
  have i2 : i + 2 < n := by omega
  have i3 : i + 3 < n := by omega
  have i4 : i + 4 < n := by omega
  have i5 : i + 5 < n := by omega
  refine ⟨M2, ?_, p4⟩
  simp (disch := omega) only [st_225_1019, st_225_1019N, st_225_1020, st_225_1021, st_225_1022, st_225_1023, st_225_1024, st_225_1025, st_225_1028, st_225_1028N, st_225_1029, st_225_1030, st_225_1031, st_225_1032, st_225_1033, st_225_1034, st_225_1037, st_225_1040, st_225_1041, ini_225, fs_cl, fs_len, fs_rf, fs_M, fs_put, fs_cpy, ↓reduceIte, rv_ref, true_or, or_true, true_and, and_true, nI_ltI, ix_nI, nI_clamp, ps_i, ps_n, Option.bind_some, sm_0, sm_1, sm_2, sm_3, sm_4, sto_0, sto_1, sto_2, sto_3, sto_4, sto_5, sto_6, sto_7, sto_8, sto_9, sto_10, sto_11, sto_12, sto_13, sto_14, nlo_n, nlo_i, nlo_r, nlo_0, nlo_l, and_self, or_self, Nat.reduceEqDiff, Nat.reduceLT, Nat.reduceLeDiff, Nat.one_ne_zero, Nat.zero_ne_one, l1, l2, w0, m0, nI_add, i1, i2, i3, i4, i5, p1, p5, p2, self_t]
theorem lw_26 (hh : Hd h) (hL : hC h 1003 = 22 ∧ hN h 1003 = n) (hI : INv M) (hi : i + 6 ≤ n) (hn : n ≤ 3072) {e : Nat} (he : 100 ≤ e) : ∃ M2, j_X e 225 1042 [some (.ref 1003), some (.ref 1), some (.ref 115), some (.int (nI i))] [] (FS h M) = j_X e 225 1411 [some (.ref 1003), some (.ref 1), some (.ref 115), some (.int (nI i))] [] (FS h M2) ∧ INv M2 := by
  obtain ⟨E, z, K0, K1, T, W, hE⟩ := hI
  obtain ⟨v, M1, M2, p1, p2, p3, p4⟩ := g_voice hh hE (M 1003 (i + 1)) (M 1003 (i + 2)) (M 1003 (i + 3)) e he
  have w0 := hh.1.1
  have m0 := hh.2.2.2.2.2.2.2.1.1
  have l1 := hL.1
  have l2 := hL.2
  have p5 : ∀ k, M1 1003 k = M 1003 k := fun k => congrFun p3 k
  have i1 : i + 1 < n := by omega
  have i2 : i + 2 < n := by omega
  have i3 : i + 3 < n := by omega
  have i4 : i + 4 < n := by omega
  have i5 : i + 5 < n := by omega
  refine ⟨M2, ?_, p4⟩
  simp (disch := omega) only [st_225_1042, st_225_1042N, st_225_1043, st_225_1044, st_225_1045, st_225_1046, st_225_1047, st_225_1048, st_225_1049, st_225_1050, st_225_1051, st_225_1052, st_225_1053, st_225_1054, st_225_1055, st_225_1056, st_225_1057, st_225_1058, st_225_1061, st_225_1061N, st_225_1062, st_225_1063, st_225_1064, st_225_1065, st_225_1066, st_225_1067, st_225_1068, st_225_1069, st_225_1070, st_225_1071, st_225_1072, st_225_1073, st_225_1074, st_225_1075, st_225_1076, st_225_1077, st_225_1080, st_225_1083, st_225_1084, ini_225, fs_cl, fs_len, fs_rf, fs_M, fs_put, fs_cpy, ↓reduceIte, rv_ref, true_or, or_true, true_and, and_true, nI_ltI, ix_nI, nI_clamp, ps_i, ps_n, Option.bind_some, sm_0, sm_1, sm_2, sm_3, sm_4, sto_0, sto_1, sto_2, sto_3, sto_4, sto_5, sto_6, sto_7, sto_8, sto_9, sto_10, sto_11, sto_12, sto_13, sto_14, nlo_n, nlo_i, nlo_r, nlo_0, nlo_l, and_self, or_self, Nat.reduceEqDiff, Nat.reduceLT, Nat.reduceLeDiff, Nat.one_ne_zero, Nat.zero_ne_one, l1, l2, w0, m0, nI_add, i1, i2, i3, i4, i5, p1, p5, p2, self_t]
theorem lw_27 (hh : Hd h) (hL : hC h 1003 = 22 ∧ hN h 1003 = n) (hI : INv M) (hi : i + 6 ≤ n) (hn : n ≤ 3072) {e : Nat} (he : 100 ≤ e) : ∃ M2, j_X e 225 1085 [some (.ref 1003), some (.ref 1), some (.ref 115), some (.int (nI i))] [] (FS h M) = j_X e 225 1411 [some (.ref 1003), some (.ref 1), some (.ref 115), some (.int (nI i))] [] (FS h M2) ∧ INv M2 := by
  obtain ⟨E, z, K0, K1, T, W, hE⟩ := hI
  obtain ⟨v, M1, M2, p1, p2, p3, p4⟩ := g_trace hh hE (M 1003 (i + 1)) e he
  have w0 := hh.1.1
  have m0 := hh.2.2.2.2.2.2.2.1.1
  have l1 := hL.1
  have l2 := hL.2
  have p5 : ∀ k, M1 1003 k = M 1003 k := fun k => congrFun p3 k
  have i1 : i + 1 < n := by omega
  have i2 : i + 2 < n := by omega
  have i3 : i + 3 < n := by omega
  have i4 : i + 4 < n := by omega
  have i5 : i + 5 < n := by omega
  refine ⟨M2, ?_, p4⟩
  simp (disch := omega) only [st_225_1085, st_225_1085N, st_225_1086, st_225_1087, st_225_1088, st_225_1089, st_225_1090, st_225_1091, st_225_1094, st_225_1094N, st_225_1095, st_225_1096, st_225_1097, st_225_1098, st_225_1099, st_225_1100, st_225_1103, st_225_1106, st_225_1107, ini_225, fs_cl, fs_len, fs_rf, fs_M, fs_put, fs_cpy, ↓reduceIte, rv_ref, true_or, or_true, true_and, and_true, nI_ltI, ix_nI, nI_clamp, ps_i, ps_n, Option.bind_some, sm_0, sm_1, sm_2, sm_3, sm_4, sto_0, sto_1, sto_2, sto_3, sto_4, sto_5, sto_6, sto_7, sto_8, sto_9, sto_10, sto_11, sto_12, sto_13, sto_14, nlo_n, nlo_i, nlo_r, nlo_0, nlo_l, and_self, or_self, Nat.reduceEqDiff, Nat.reduceLT, Nat.reduceLeDiff, Nat.one_ne_zero, Nat.zero_ne_one, l1, l2, w0, m0, nI_add, i1, i2, i3, i4, i5, p1, p5, p2, self_t]
theorem lw_28 (hh : Hd h) (hL : hC h 1003 = 22 ∧ hN h 1003 = n) (hI : INv M) (hi : i + 6 ≤ n) (hn : n ≤ 3072) {e : Nat} (he : 100 ≤ e) : ∃ M2, j_X e 225 1108 [some (.ref 1003), some (.ref 1), some (.ref 115), some (.int (nI i))] [] (FS h M) = j_X e 225 1411 [some (.ref 1003), some (.ref 1), some (.ref 115), some (.int (nI i))] [] (FS h M2) ∧ INv M2 := by
  obtain ⟨E, z, K0, K1, T, W, hE⟩ := hI
  obtain ⟨v, M1, M2, p1, p2, p3, p4⟩ := g_sheet hh hE (M 1003 (i + 1)) (M 1003 (i + 2)) (M 1003 (i + 3)) e he
  have w0 := hh.1.1
  have m0 := hh.2.2.2.2.2.2.2.1.1
  have l1 := hL.1
  have l2 := hL.2
  have p5 : ∀ k, M1 1003 k = M 1003 k := fun k => congrFun p3 k
  have i1 : i + 1 < n := by omega
  have i2 : i + 2 < n := by omega
  have i3 : i + 3 < n := by omega
  have i4 : i + 4 < n := by omega
  have i5 : i + 5 < n := by omega
  refine ⟨M2, ?_, p4⟩
  simp (disch := omega) only [st_225_1108, st_225_1108N, st_225_1109, st_225_1110, st_225_1111, st_225_1112, st_225_1113, st_225_1114, st_225_1115, st_225_1116, st_225_1117, st_225_1118, st_225_1119, st_225_1120, st_225_1121, st_225_1122, st_225_1123, st_225_1124, st_225_1127, st_225_1127N, st_225_1128, st_225_1129, st_225_1130, st_225_1131, st_225_1132, st_225_1133, st_225_1134, st_225_1135, st_225_1136, st_225_1137, st_225_1138, st_225_1139, st_225_1140, st_225_1141, st_225_1142, st_225_1143, st_225_1146, st_225_1149, st_225_1150, ini_225, fs_cl, fs_len, fs_rf, fs_M, fs_put, fs_cpy, ↓reduceIte, rv_ref, true_or, or_true, true_and, and_true, nI_ltI, ix_nI, nI_clamp, ps_i, ps_n, Option.bind_some, sm_0, sm_1, sm_2, sm_3, sm_4, sto_0, sto_1, sto_2, sto_3, sto_4, sto_5, sto_6, sto_7, sto_8, sto_9, sto_10, sto_11, sto_12, sto_13, sto_14, nlo_n, nlo_i, nlo_r, nlo_0, nlo_l, and_self, or_self, Nat.reduceEqDiff, Nat.reduceLT, Nat.reduceLeDiff, Nat.one_ne_zero, Nat.zero_ne_one, l1, l2, w0, m0, nI_add, i1, i2, i3, i4, i5, p1, p5, p2, self_t]
theorem lw_29 (hh : Hd h) (hL : hC h 1003 = 22 ∧ hN h 1003 = n) (hI : INv M) (hi : i + 6 ≤ n) (hn : n ≤ 3072) {e : Nat} (he : 100 ≤ e) : ∃ M2, j_X e 225 1151 [some (.ref 1003), some (.ref 1), some (.ref 115), some (.int (nI i))] [] (FS h M) = j_X e 225 1411 [some (.ref 1003), some (.ref 1), some (.ref 115), some (.int (nI i))] [] (FS h M2) ∧ INv M2 := by
  obtain ⟨E, z, K0, K1, T, W, hE⟩ := hI
  obtain ⟨v, M1, M2, p1, p2, p3, p4⟩ := g_put hh hE (M 1003 (i + 1)) (M 1003 (i + 2)) (M 1003 (i + 3)) e he
  have w0 := hh.1.1
  have m0 := hh.2.2.2.2.2.2.2.1.1
  have l1 := hL.1
  have l2 := hL.2
  have p5 : ∀ k, M1 1003 k = M 1003 k := fun k => congrFun p3 k
  have i1 : i + 1 < n := by omega
  have i2 : i + 2 < n := by omega
  have i3 : i + 3 < n := by omega
  have i4 : i + 4 < n := by omega
  have i5 : i + 5 < n := by omega
  refine ⟨M2, ?_, p4⟩
  simp (disch := omega) only [st_225_1151, st_225_1151N, st_225_1152, st_225_1153, st_225_1154, st_225_1155, st_225_1156, st_225_1157, st_225_1158, st_225_1159, st_225_1160, st_225_1161, st_225_1162, st_225_1163, st_225_1164, st_225_1165, st_225_1166, st_225_1167, st_225_1170, st_225_1170N, st_225_1171, st_225_1172, st_225_1173, st_225_1174, st_225_1175, st_225_1176, st_225_1177, st_225_1178, st_225_1179, st_225_1180, st_225_1181, st_225_1182, st_225_1183, st_225_1184, st_225_1185, st_225_1186, st_225_1189, st_225_1192, st_225_1193, ini_225, fs_cl, fs_len, fs_rf, fs_M, fs_put, fs_cpy, ↓reduceIte, rv_ref, true_or, or_true, true_and, and_true, nI_ltI, ix_nI, nI_clamp, ps_i, ps_n, Option.bind_some, sm_0, sm_1, sm_2, sm_3, sm_4, sto_0, sto_1, sto_2, sto_3, sto_4, sto_5, sto_6, sto_7, sto_8, sto_9, sto_10, sto_11, sto_12, sto_13, sto_14, nlo_n, nlo_i, nlo_r, nlo_0, nlo_l, and_self, or_self, Nat.reduceEqDiff, Nat.reduceLT, Nat.reduceLeDiff, Nat.one_ne_zero, Nat.zero_ne_one, l1, l2, w0, m0, nI_add, i1, i2, i3, i4, i5, p1, p5, p2, self_t]
theorem lw_30 (hh : Hd h) (hL : hC h 1003 = 22 ∧ hN h 1003 = n) (hI : INv M) (hi : i + 6 ≤ n) (hn : n ≤ 3072) {e : Nat} (he : 100 ≤ e) : ∃ M2, j_X e 225 1194 [some (.ref 1003), some (.ref 1), some (.ref 115), some (.int (nI i))] [] (FS h M) = j_X e 225 1411 [some (.ref 1003), some (.ref 1), some (.ref 115), some (.int (nI i))] [] (FS h M2) ∧ INv M2 := by
  obtain ⟨E, z, K0, K1, T, W, hE⟩ := hI
  obtain ⟨v, M1, M2, p1, p2, p3, p4⟩ := g_move hh hE (M 1003 (i + 1)) (M 1003 (i + 2)) (M 1003 (i + 3)) (M 1003 (i + 4)) (M 1003 (i + 5)) e he
  have w0 := hh.1.1
  have m0 := hh.2.2.2.2.2.2.2.1.1
  have l1 := hL.1
  have l2 := hL.2
  have p5 : ∀ k, M1 1003 k = M 1003 k := fun k => congrFun p3 k
  have i1 : i + 1 < n := by omega
  have i2 : i + 2 < n := by omega
  have i3 : i + 3 < n := by omega
  have i4 : i + 4 < n := by omega
  have i5 : i + 5 < n := by omega
  refine ⟨M2, ?_, p4⟩
  simp (disch := omega) only [st_225_1194, st_225_1194N, st_225_1195, st_225_1196, st_225_1197, st_225_1198, st_225_1199, st_225_1200, st_225_1201, st_225_1202, st_225_1203, st_225_1204, st_225_1205, st_225_1206, st_225_1207, st_225_1208, st_225_1209, st_225_1210, st_225_1211, st_225_1212, st_225_1213, st_225_1214, st_225_1215, st_225_1216, st_225_1217, st_225_1218, st_225_1219, st_225_1220, st_225_1223, st_225_1223N, st_225_1224, st_225_1225, st_225_1226, st_225_1227, st_225_1228, st_225_1229, st_225_1230, st_225_1231, st_225_1232, st_225_1233, st_225_1234, st_225_1235, st_225_1236, st_225_1237, st_225_1238, st_225_1239, st_225_1240, st_225_1241, st_225_1242, st_225_1243, st_225_1244, st_225_1245, st_225_1246, st_225_1247, st_225_1248, st_225_1249, st_225_1252, st_225_1255, st_225_1256, ini_225, fs_cl, fs_len, fs_rf, fs_M, fs_put, fs_cpy, ↓reduceIte, rv_ref, true_or, or_true, true_and, and_true, nI_ltI, ix_nI, nI_clamp, ps_i, ps_n, Option.bind_some, sm_0, sm_1, sm_2, sm_3, sm_4, sto_0, sto_1, sto_2, sto_3, sto_4, sto_5, sto_6, sto_7, sto_8, sto_9, sto_10, sto_11, sto_12, sto_13, sto_14, nlo_n, nlo_i, nlo_r, nlo_0, nlo_l, and_self, or_self, Nat.reduceEqDiff, Nat.reduceLT, Nat.reduceLeDiff, Nat.one_ne_zero, Nat.zero_ne_one, l1, l2, w0, m0, nI_add, i1, i2, i3, i4, i5, p1, p5, p2, self_t]
theorem lw_31 (hh : Hd h) (hL : hC h 1003 = 22 ∧ hN h 1003 = n) (hI : INv M) (hi : i + 6 ≤ n) (hn : n ≤ 3072) {e : Nat} (he : 100 ≤ e) : ∃ M2, j_X e 225 1257 [some (.ref 1003), some (.ref 1), some (.ref 115), some (.int (nI i))] [] (FS h M) = j_X e 225 1411 [some (.ref 1003), some (.ref 1), some (.ref 115), some (.int (nI i))] [] (FS h M2) ∧ INv M2 := by
  obtain ⟨E, z, K0, K1, T, W, hE⟩ := hI
  obtain ⟨v, M1, M2, p1, p2, p3, p4⟩ := g_prices hh hE (M 1003 (i + 1)) e he
  have w0 := hh.1.1
  have m0 := hh.2.2.2.2.2.2.2.1.1
  have l1 := hL.1
  have l2 := hL.2
  have p5 : ∀ k, M1 1003 k = M 1003 k := fun k => congrFun p3 k
  have i1 : i + 1 < n := by omega
  have i2 : i + 2 < n := by omega
  have i3 : i + 3 < n := by omega
  have i4 : i + 4 < n := by omega
  have i5 : i + 5 < n := by omega
  refine ⟨M2, ?_, p4⟩
  simp (disch := omega) only [st_225_1257, st_225_1257N, st_225_1258, st_225_1259, st_225_1260, st_225_1261, st_225_1262, st_225_1263, st_225_1266, st_225_1266N, st_225_1267, st_225_1268, st_225_1269, st_225_1270, st_225_1271, st_225_1272, st_225_1275, st_225_1278, st_225_1279, ini_225, fs_cl, fs_len, fs_rf, fs_M, fs_put, fs_cpy, ↓reduceIte, rv_ref, true_or, or_true, true_and, and_true, nI_ltI, ix_nI, nI_clamp, ps_i, ps_n, Option.bind_some, sm_0, sm_1, sm_2, sm_3, sm_4, sto_0, sto_1, sto_2, sto_3, sto_4, sto_5, sto_6, sto_7, sto_8, sto_9, sto_10, sto_11, sto_12, sto_13, sto_14, nlo_n, nlo_i, nlo_r, nlo_0, nlo_l, and_self, or_self, Nat.reduceEqDiff, Nat.reduceLT, Nat.reduceLeDiff, Nat.one_ne_zero, Nat.zero_ne_one, l1, l2, w0, m0, nI_add, i1, i2, i3, i4, i5, p1, p5, p2, self_t]
theorem lw_32 (hh : Hd h) (hL : hC h 1003 = 22 ∧ hN h 1003 = n) (hI : INv M) (hi : i + 6 ≤ n) (hn : n ≤ 3072) {e : Nat} (he : 100 ≤ e) : ∃ M2, j_X e 225 1280 [some (.ref 1003), some (.ref 1), some (.ref 115), some (.int (nI i))] [] (FS h M) = j_X e 225 1411 [some (.ref 1003), some (.ref 1), some (.ref 115), some (.int (nI i))] [] (FS h M2) ∧ INv M2 := by
  obtain ⟨E, z, K0, K1, T, W, hE⟩ := hI
  obtain ⟨v, M1, M2, p1, p2, p3, p4⟩ := g_judge hh hE (M 1003 (i + 1)) e he
  have w0 := hh.1.1
  have m0 := hh.2.2.2.2.2.2.2.1.1
  have l1 := hL.1
  have l2 := hL.2
  have p5 : ∀ k, M1 1003 k = M 1003 k := fun k => congrFun p3 k
  have i1 : i + 1 < n := by omega
  have i2 : i + 2 < n := by omega
  have i3 : i + 3 < n := by omega
  have i4 : i + 4 < n := by omega
  have i5 : i + 5 < n := by omega
  refine ⟨M2, ?_, p4⟩
  simp (disch := omega) only [st_225_1280, st_225_1280N, st_225_1281, st_225_1282, st_225_1283, st_225_1284, st_225_1285, st_225_1286, st_225_1289, st_225_1289N, st_225_1290, st_225_1291, st_225_1292, st_225_1293, st_225_1294, st_225_1295, st_225_1298, st_225_1301, st_225_1302, ini_225, fs_cl, fs_len, fs_rf, fs_M, fs_put, fs_cpy, ↓reduceIte, rv_ref, true_or, or_true, true_and, and_true, nI_ltI, ix_nI, nI_clamp, ps_i, ps_n, Option.bind_some, sm_0, sm_1, sm_2, sm_3, sm_4, sto_0, sto_1, sto_2, sto_3, sto_4, sto_5, sto_6, sto_7, sto_8, sto_9, sto_10, sto_11, sto_12, sto_13, sto_14, nlo_n, nlo_i, nlo_r, nlo_0, nlo_l, and_self, or_self, Nat.reduceEqDiff, Nat.reduceLT, Nat.reduceLeDiff, Nat.one_ne_zero, Nat.zero_ne_one, l1, l2, w0, m0, nI_add, i1, i2, i3, i4, i5, p1, p5, p2, self_t]
theorem lw_33 (hh : Hd h) (hL : hC h 1003 = 22 ∧ hN h 1003 = n) (hI : INv M) (hi : i + 6 ≤ n) (hn : n ≤ 3072) {e : Nat} (he : 100 ≤ e) : ∃ M2, j_X e 225 1303 [some (.ref 1003), some (.ref 1), some (.ref 115), some (.int (nI i))] [] (FS h M) = j_X e 225 1411 [some (.ref 1003), some (.ref 1), some (.ref 115), some (.int (nI i))] [] (FS h M2) ∧ INv M2 := by
  obtain ⟨E, z, K0, K1, T, W, hE⟩ := hI
  obtain ⟨v, M1, M2, p1, p2, p3, p4⟩ := g_image hh hE  e he
  have w0 := hh.1.1
  have m0 := hh.2.2.2.2.2.2.2.1.1
  have l1 := hL.1
  have l2 := hL.2
  have p5 : ∀ k, M1 1003 k = M 1003 k := fun k => congrFun p3 k
  have i1 : i + 1 < n := by omega
  have i2 : i + 2 < n := by omega
  have i3 : i + 3 < n := by omega
  have i4 : i + 4 < n := by omega
  have i5 : i + 5 < n := by omega
  refine ⟨M2, ?_, p4⟩
  simp (disch := omega) only [st_225_1303, st_225_1303N, st_225_1304, st_225_1307, st_225_1307N, st_225_1308, st_225_1311, st_225_1314, st_225_1315, ini_225, fs_cl, fs_len, fs_rf, fs_M, fs_put, fs_cpy, ↓reduceIte, rv_ref, true_or, or_true, true_and, and_true, nI_ltI, ix_nI, nI_clamp, ps_i, ps_n, Option.bind_some, sm_0, sm_1, sm_2, sm_3, sm_4, sto_0, sto_1, sto_2, sto_3, sto_4, sto_5, sto_6, sto_7, sto_8, sto_9, sto_10, sto_11, sto_12, sto_13, sto_14, nlo_n, nlo_i, nlo_r, nlo_0, nlo_l, and_self, or_self, Nat.reduceEqDiff, Nat.reduceLT, Nat.reduceLeDiff, Nat.one_ne_zero, Nat.zero_ne_one, l1, l2, w0, m0, nI_add, i1, i2, i3, i4, i5, p1, p5, p2, self_t]
theorem lw_34 (hh : Hd h) (hL : hC h 1003 = 22 ∧ hN h 1003 = n) (hI : INv M) (hi : i + 6 ≤ n) (hn : n ≤ 3072) {e : Nat} (he : 100 ≤ e) : ∃ M2, j_X e 225 1316 [some (.ref 1003), some (.ref 1), some (.ref 115), some (.int (nI i))] [] (FS h M) = j_X e 225 1411 [some (.ref 1003), some (.ref 1), some (.ref 115), some (.int (nI i))] [] (FS h M2) ∧ INv M2 := by
  obtain ⟨E, z, K0, K1, T, W, hE⟩ := hI
  obtain ⟨v, M1, M2, p1, p2, p3, p4⟩ := g_restore hh hE  e he
  have w0 := hh.1.1
  have m0 := hh.2.2.2.2.2.2.2.1.1
  have l1 := hL.1
  have l2 := hL.2
  have p5 : ∀ k, M1 1003 k = M 1003 k := fun k => congrFun p3 k
  have i1 : i + 1 < n := by omega
  have i2 : i + 2 < n := by omega
  have i3 : i + 3 < n := by omega
  have i4 : i + 4 < n := by omega
  have i5 : i + 5 < n := by omega
  refine ⟨M2, ?_, p4⟩
  simp (disch := omega) only [st_225_1316, st_225_1316N, st_225_1317, st_225_1320, st_225_1320N, st_225_1321, st_225_1324, st_225_1327, st_225_1328, ini_225, fs_cl, fs_len, fs_rf, fs_M, fs_put, fs_cpy, ↓reduceIte, rv_ref, true_or, or_true, true_and, and_true, nI_ltI, ix_nI, nI_clamp, ps_i, ps_n, Option.bind_some, sm_0, sm_1, sm_2, sm_3, sm_4, sto_0, sto_1, sto_2, sto_3, sto_4, sto_5, sto_6, sto_7, sto_8, sto_9, sto_10, sto_11, sto_12, sto_13, sto_14, nlo_n, nlo_i, nlo_r, nlo_0, nlo_l, and_self, or_self, Nat.reduceEqDiff, Nat.reduceLT, Nat.reduceLeDiff, Nat.one_ne_zero, Nat.zero_ne_one, l1, l2, w0, m0, nI_add, i1, i2, i3, i4, i5, p1, p5, p2, self_t]
theorem lw_35 (hh : Hd h) (hL : hC h 1003 = 22 ∧ hN h 1003 = n) (hI : INv M) (hi : i + 6 ≤ n) (hn : n ≤ 3072) {e : Nat} (he : 100 ≤ e) : ∃ M2, j_X e 225 1329 [some (.ref 1003), some (.ref 1), some (.ref 115), some (.int (nI i))] [] (FS h M) = j_X e 225 1411 [some (.ref 1003), some (.ref 1), some (.ref 115), some (.int (nI i))] [] (FS h M2) ∧ INv M2 := by
  obtain ⟨E, z, K0, K1, T, W, hE⟩ := hI
  obtain ⟨v, M1, M2, p1, p2, p3, p4⟩ := g_tell hh hE (M 1003 (i + 1)) e he
  have w0 := hh.1.1
  have m0 := hh.2.2.2.2.2.2.2.1.1
  have l1 := hL.1
  have l2 := hL.2
  have p5 : ∀ k, M1 1003 k = M 1003 k := fun k => congrFun p3 k
  have i1 : i + 1 < n := by omega
  have i2 : i + 2 < n := by omega
  have i3 : i + 3 < n := by omega
  have i4 : i + 4 < n := by omega
  have i5 : i + 5 < n := by omega
  refine ⟨M2, ?_, p4⟩
  simp (disch := omega) only [st_225_1329, st_225_1329N, st_225_1330, st_225_1331, st_225_1332, st_225_1333, st_225_1334, st_225_1335, st_225_1338, st_225_1338N, st_225_1339, st_225_1340, st_225_1341, st_225_1342, st_225_1343, st_225_1344, st_225_1347, st_225_1350, st_225_1351, ini_225, fs_cl, fs_len, fs_rf, fs_M, fs_put, fs_cpy, ↓reduceIte, rv_ref, true_or, or_true, true_and, and_true, nI_ltI, ix_nI, nI_clamp, ps_i, ps_n, Option.bind_some, sm_0, sm_1, sm_2, sm_3, sm_4, sto_0, sto_1, sto_2, sto_3, sto_4, sto_5, sto_6, sto_7, sto_8, sto_9, sto_10, sto_11, sto_12, sto_13, sto_14, nlo_n, nlo_i, nlo_r, nlo_0, nlo_l, and_self, or_self, Nat.reduceEqDiff, Nat.reduceLT, Nat.reduceLeDiff, Nat.one_ne_zero, Nat.zero_ne_one, l1, l2, w0, m0, nI_add, i1, i2, i3, i4, i5, p1, p5, p2, self_t]
theorem lw_36 (hh : Hd h) (hL : hC h 1003 = 22 ∧ hN h 1003 = n) (hI : INv M) (hi : i + 6 ≤ n) (hn : n ≤ 3072) {e : Nat} (he : 100 ≤ e) : ∃ M2, j_X e 225 1352 [some (.ref 1003), some (.ref 1), some (.ref 115), some (.int (nI i))] [] (FS h M) = j_X e 225 1411 [some (.ref 1003), some (.ref 1), some (.ref 115), some (.int (nI i))] [] (FS h M2) ∧ INv M2 := by
  obtain ⟨E, z, K0, K1, T, W, hE⟩ := hI
  obtain ⟨v, M1, M2, p1, p2, p3, p4⟩ := g_check hh hE  e he
  have w0 := hh.1.1
  have m0 := hh.2.2.2.2.2.2.2.1.1
  have l1 := hL.1
  have l2 := hL.2
  have p5 : ∀ k, M1 1003 k = M 1003 k := fun k => congrFun p3 k
  have i1 : i + 1 < n := by omega
  have i2 : i + 2 < n := by omega
  have i3 : i + 3 < n := by omega
  have i4 : i + 4 < n := by omega
  have i5 : i + 5 < n := by omega
  refine ⟨M2, ?_, p4⟩
  simp (disch := omega) only [st_225_1352, st_225_1352N, st_225_1353, st_225_1356, st_225_1356N, st_225_1357, st_225_1360, st_225_1363, st_225_1364, ini_225, fs_cl, fs_len, fs_rf, fs_M, fs_put, fs_cpy, ↓reduceIte, rv_ref, true_or, or_true, true_and, and_true, nI_ltI, ix_nI, nI_clamp, ps_i, ps_n, Option.bind_some, sm_0, sm_1, sm_2, sm_3, sm_4, sto_0, sto_1, sto_2, sto_3, sto_4, sto_5, sto_6, sto_7, sto_8, sto_9, sto_10, sto_11, sto_12, sto_13, sto_14, nlo_n, nlo_i, nlo_r, nlo_0, nlo_l, and_self, or_self, Nat.reduceEqDiff, Nat.reduceLT, Nat.reduceLeDiff, Nat.one_ne_zero, Nat.zero_ne_one, l1, l2, w0, m0, nI_add, i1, i2, i3, i4, i5, p1, p5, p2, self_t]
theorem lw_37 (hh : Hd h) (hL : hC h 1003 = 22 ∧ hN h 1003 = n) (hI : INv M) (hi : i + 6 ≤ n) (hn : n ≤ 3072) {e : Nat} (he : 100 ≤ e) : ∃ M2, j_X e 225 1365 [some (.ref 1003), some (.ref 1), some (.ref 115), some (.int (nI i))] [] (FS h M) = j_X e 225 1411 [some (.ref 1003), some (.ref 1), some (.ref 115), some (.int (nI i))] [] (FS h M2) ∧ INv M2 := by
  obtain ⟨E, z, K0, K1, T, W, hE⟩ := hI
  obtain ⟨v, M1, M2, p1, p2, p3, p4⟩ := g_count hh hE (M 1003 (i + 1)) e he
  have w0 := hh.1.1
  have m0 := hh.2.2.2.2.2.2.2.1.1
  have l1 := hL.1
  have l2 := hL.2
  have p5 : ∀ k, M1 1003 k = M 1003 k := fun k => congrFun p3 k
  have i1 : i + 1 < n := by omega
  have i2 : i + 2 < n := by omega
  have i3 : i + 3 < n := by omega
  have i4 : i + 4 < n := by omega
  have i5 : i + 5 < n := by omega
  refine ⟨M2, ?_, p4⟩
  simp (disch := omega) only [st_225_1365, st_225_1365N, st_225_1366, st_225_1367, st_225_1368, st_225_1369, st_225_1370, st_225_1371, st_225_1374, st_225_1374N, st_225_1375, st_225_1376, st_225_1377, st_225_1378, st_225_1379, st_225_1380, st_225_1383, st_225_1386, st_225_1387, ini_225, fs_cl, fs_len, fs_rf, fs_M, fs_put, fs_cpy, ↓reduceIte, rv_ref, true_or, or_true, true_and, and_true, nI_ltI, ix_nI, nI_clamp, ps_i, ps_n, Option.bind_some, sm_0, sm_1, sm_2, sm_3, sm_4, sto_0, sto_1, sto_2, sto_3, sto_4, sto_5, sto_6, sto_7, sto_8, sto_9, sto_10, sto_11, sto_12, sto_13, sto_14, nlo_n, nlo_i, nlo_r, nlo_0, nlo_l, and_self, or_self, Nat.reduceEqDiff, Nat.reduceLT, Nat.reduceLeDiff, Nat.one_ne_zero, Nat.zero_ne_one, l1, l2, w0, m0, nI_add, i1, i2, i3, i4, i5, p1, p5, p2, self_t]
theorem lw_38 (hh : Hd h) (hL : hC h 1003 = 22 ∧ hN h 1003 = n) (hI : INv M) (hi : i + 6 ≤ n) (hn : n ≤ 3072) {e : Nat} (he : 100 ≤ e) : ∃ M2, j_X e 225 1388 [some (.ref 1003), some (.ref 1), some (.ref 115), some (.int (nI i))] [] (FS h M) = j_X e 225 1411 [some (.ref 1003), some (.ref 1), some (.ref 115), some (.int (nI i))] [] (FS h M2) ∧ INv M2 := by
  obtain ⟨E, z, K0, K1, T, W, hE⟩ := hI
  obtain ⟨v, M1, M2, p1, p2, p3, p4⟩ := g_told hh hE (M 1003 (i + 1)) e he
  have w0 := hh.1.1
  have m0 := hh.2.2.2.2.2.2.2.1.1
  have l1 := hL.1
  have l2 := hL.2
  have p5 : ∀ k, M1 1003 k = M 1003 k := fun k => congrFun p3 k
  have i1 : i + 1 < n := by omega
  have i2 : i + 2 < n := by omega
  have i3 : i + 3 < n := by omega
  have i4 : i + 4 < n := by omega
  have i5 : i + 5 < n := by omega
  refine ⟨M2, ?_, p4⟩
  simp (disch := omega) only [st_225_1388, st_225_1388N, st_225_1389, st_225_1390, st_225_1391, st_225_1392, st_225_1393, st_225_1394, st_225_1397, st_225_1397N, st_225_1398, st_225_1399, st_225_1400, st_225_1401, st_225_1402, st_225_1403, st_225_1406, st_225_1409, st_225_1410, ini_225, fs_cl, fs_len, fs_rf, fs_M, fs_put, fs_cpy, ↓reduceIte, rv_ref, true_or, or_true, true_and, and_true, nI_ltI, ix_nI, nI_clamp, ps_i, ps_n, Option.bind_some, sm_0, sm_1, sm_2, sm_3, sm_4, sto_0, sto_1, sto_2, sto_3, sto_4, sto_5, sto_6, sto_7, sto_8, sto_9, sto_10, sto_11, sto_12, sto_13, sto_14, nlo_n, nlo_i, nlo_r, nlo_0, nlo_l, and_self, or_self, Nat.reduceEqDiff, Nat.reduceLT, Nat.reduceLeDiff, Nat.one_ne_zero, Nat.zero_ne_one, l1, l2, w0, m0, nI_add, i1, i2, i3, i4, i5, p1, p5, p2, self_t]
theorem lw_step (hh : Hd h) (hL : hC h 1003 = 22 ∧ hN h 1003 = n) (hI : INv M) (hi : i + 6 ≤ n) (hn : n ≤ 3072) {e : Nat} (he : 100 ≤ e) (x : Int32) : ∃ M2, j_X e 225 33 [some (.ref 1003), some (.ref 1), some (.ref 115), some (.int (nI i))] [.int x] (FS h M) = j_X e 225 1411 [some (.ref 1003), some (.ref 1), some (.ref 115), some (.int (nI i))] [] (FS h M2) ∧ INv M2 := by
  by_cases hx : ∃ j, 0 ≤ j ∧ j ≤ 38 ∧ x = nI j
  · obtain ⟨c, _, hc, rfl⟩ := hx
    have hc39 : c = 0 ∨ c = 1 ∨ c = 2 ∨ c = 3 ∨ c = 4 ∨ c = 5 ∨ c = 6 ∨ c = 7 ∨ c = 8 ∨ c = 9 ∨ c = 10 ∨ c = 11 ∨ c = 12 ∨ c = 13 ∨ c = 14 ∨ c = 15 ∨ c = 16 ∨ c = 17 ∨ c = 18 ∨ c = 19 ∨ c = 20 ∨ c = 21 ∨ c = 22 ∨ c = 23 ∨ c = 24 ∨ c = 25 ∨ c = 26 ∨ c = 27 ∨ c = 28 ∨ c = 29 ∨ c = 30 ∨ c = 31 ∨ c = 32 ∨ c = 33 ∨ c = 34 ∨ c = 35 ∨ c = 36 ∨ c = 37 ∨ c = 38 := by omega
    rcases hc39 with q | q | q | q | q | q | q | q | q | q | q | q | q | q | q | q | q | q | q | q | q | q | q | q | q | q | q | q | q | q | q | q | q | q | q | q | q | q | q

    · subst q
      obtain ⟨M2, a, b⟩ := lw_0 hh hL hI hi hn he
      refine ⟨M2, ?_, b⟩
      rw [← a]
      simp (disch := omega) only [st_225_33, nI_eq, ↓reduceIte, Nat.reduceEqDiff, Nat.one_ne_zero, Nat.zero_ne_one]
    · subst q
      obtain ⟨M2, a, b⟩ := lw_1 hh hL hI hi hn he
      refine ⟨M2, ?_, b⟩
      rw [← a]
      simp (disch := omega) only [st_225_33, nI_eq, ↓reduceIte, Nat.reduceEqDiff, Nat.one_ne_zero, Nat.zero_ne_one]
    · subst q
      obtain ⟨M2, a, b⟩ := lw_2 hh hL hI hi hn he
      refine ⟨M2, ?_, b⟩
      rw [← a]
      simp (disch := omega) only [st_225_33, nI_eq, ↓reduceIte, Nat.reduceEqDiff, Nat.one_ne_zero, Nat.zero_ne_one]
    · subst q
      obtain ⟨M2, a, b⟩ := lw_3 hh hL hI hi hn he
      refine ⟨M2, ?_, b⟩
      rw [← a]
      simp (disch := omega) only [st_225_33, nI_eq, ↓reduceIte, Nat.reduceEqDiff, Nat.one_ne_zero, Nat.zero_ne_one]
    · subst q
      obtain ⟨M2, a, b⟩ := lw_4 hh hL hI hi hn he
      refine ⟨M2, ?_, b⟩
      rw [← a]
      simp (disch := omega) only [st_225_33, nI_eq, ↓reduceIte, Nat.reduceEqDiff, Nat.one_ne_zero, Nat.zero_ne_one]
    · subst q
      obtain ⟨M2, a, b⟩ := lw_5 hh hL hI hi hn he
      refine ⟨M2, ?_, b⟩
      rw [← a]
      simp (disch := omega) only [st_225_33, nI_eq, ↓reduceIte, Nat.reduceEqDiff, Nat.one_ne_zero, Nat.zero_ne_one]
    · subst q
      obtain ⟨M2, a, b⟩ := lw_6 hh hL hI hi hn he
      refine ⟨M2, ?_, b⟩
      rw [← a]
      simp (disch := omega) only [st_225_33, nI_eq, ↓reduceIte, Nat.reduceEqDiff, Nat.one_ne_zero, Nat.zero_ne_one]
    · subst q
      obtain ⟨M2, a, b⟩ := lw_7 hh hL hI hi hn he
      refine ⟨M2, ?_, b⟩
      rw [← a]
      simp (disch := omega) only [st_225_33, nI_eq, ↓reduceIte, Nat.reduceEqDiff, Nat.one_ne_zero, Nat.zero_ne_one]
    · subst q
      obtain ⟨M2, a, b⟩ := lw_8 hh hL hI hi hn he
      refine ⟨M2, ?_, b⟩
      rw [← a]
      simp (disch := omega) only [st_225_33, nI_eq, ↓reduceIte, Nat.reduceEqDiff, Nat.one_ne_zero, Nat.zero_ne_one]
    · subst q
      obtain ⟨M2, a, b⟩ := lw_9 hh hL hI hi hn he
      refine ⟨M2, ?_, b⟩
      rw [← a]
      simp (disch := omega) only [st_225_33, nI_eq, ↓reduceIte, Nat.reduceEqDiff, Nat.one_ne_zero, Nat.zero_ne_one]
    · subst q
      obtain ⟨M2, a, b⟩ := lw_10 hh hL hI hi hn he
      refine ⟨M2, ?_, b⟩
      rw [← a]
      simp (disch := omega) only [st_225_33, nI_eq, ↓reduceIte, Nat.reduceEqDiff, Nat.one_ne_zero, Nat.zero_ne_one]
    · subst q
      obtain ⟨M2, a, b⟩ := lw_11 hh hL hI hi hn he
      refine ⟨M2, ?_, b⟩
      rw [← a]
      simp (disch := omega) only [st_225_33, nI_eq, ↓reduceIte, Nat.reduceEqDiff, Nat.one_ne_zero, Nat.zero_ne_one]
    · subst q
      obtain ⟨M2, a, b⟩ := lw_12 hh hL hI hi hn he
      refine ⟨M2, ?_, b⟩
      rw [← a]
      simp (disch := omega) only [st_225_33, nI_eq, ↓reduceIte, Nat.reduceEqDiff, Nat.one_ne_zero, Nat.zero_ne_one]
    · subst q
      obtain ⟨M2, a, b⟩ := lw_13 hh hL hI hi hn he
      refine ⟨M2, ?_, b⟩
      rw [← a]
      simp (disch := omega) only [st_225_33, nI_eq, ↓reduceIte, Nat.reduceEqDiff, Nat.one_ne_zero, Nat.zero_ne_one]
    · subst q
      obtain ⟨M2, a, b⟩ := lw_14 hh hL hI hi hn he
      refine ⟨M2, ?_, b⟩
      rw [← a]
      simp (disch := omega) only [st_225_33, nI_eq, ↓reduceIte, Nat.reduceEqDiff, Nat.one_ne_zero, Nat.zero_ne_one]
    · subst q
      obtain ⟨M2, a, b⟩ := lw_15 hh hL hI hi hn he
      refine ⟨M2, ?_, b⟩
      rw [← a]
      simp (disch := omega) only [st_225_33, nI_eq, ↓reduceIte, Nat.reduceEqDiff, Nat.one_ne_zero, Nat.zero_ne_one]
    · subst q
      obtain ⟨M2, a, b⟩ := lw_16 hh hL hI hi hn he
      refine ⟨M2, ?_, b⟩
      rw [← a]
      simp (disch := omega) only [st_225_33, nI_eq, ↓reduceIte, Nat.reduceEqDiff, Nat.one_ne_zero, Nat.zero_ne_one]
    · subst q
      obtain ⟨M2, a, b⟩ := lw_17 hh hL hI hi hn he
      refine ⟨M2, ?_, b⟩
      rw [← a]
      simp (disch := omega) only [st_225_33, nI_eq, ↓reduceIte, Nat.reduceEqDiff, Nat.one_ne_zero, Nat.zero_ne_one]
    · subst q
      obtain ⟨M2, a, b⟩ := lw_18 hh hL hI hi hn he
      refine ⟨M2, ?_, b⟩
      rw [← a]
      simp (disch := omega) only [st_225_33, nI_eq, ↓reduceIte, Nat.reduceEqDiff, Nat.one_ne_zero, Nat.zero_ne_one]
    · subst q
      obtain ⟨M2, a, b⟩ := lw_19 hh hL hI hi hn he
      refine ⟨M2, ?_, b⟩
      rw [← a]
      simp (disch := omega) only [st_225_33, nI_eq, ↓reduceIte, Nat.reduceEqDiff, Nat.one_ne_zero, Nat.zero_ne_one]
    · subst q
      obtain ⟨M2, a, b⟩ := lw_20 hh hL hI hi hn he
      refine ⟨M2, ?_, b⟩
      rw [← a]
      simp (disch := omega) only [st_225_33, nI_eq, ↓reduceIte, Nat.reduceEqDiff, Nat.one_ne_zero, Nat.zero_ne_one]
    · subst q
      obtain ⟨M2, a, b⟩ := lw_21 hh hL hI hi hn he
      refine ⟨M2, ?_, b⟩
      rw [← a]
      simp (disch := omega) only [st_225_33, nI_eq, ↓reduceIte, Nat.reduceEqDiff, Nat.one_ne_zero, Nat.zero_ne_one]
    · subst q
      obtain ⟨M2, a, b⟩ := lw_22 hh hL hI hi hn he
      refine ⟨M2, ?_, b⟩
      rw [← a]
      simp (disch := omega) only [st_225_33, nI_eq, ↓reduceIte, Nat.reduceEqDiff, Nat.one_ne_zero, Nat.zero_ne_one]
    · subst q
      obtain ⟨M2, a, b⟩ := lw_23 hh hL hI hi hn he
      refine ⟨M2, ?_, b⟩
      rw [← a]
      simp (disch := omega) only [st_225_33, nI_eq, ↓reduceIte, Nat.reduceEqDiff, Nat.one_ne_zero, Nat.zero_ne_one]
    · subst q
      obtain ⟨M2, a, b⟩ := lw_24 hh hL hI hi hn he
      refine ⟨M2, ?_, b⟩
      rw [← a]
      simp (disch := omega) only [st_225_33, nI_eq, ↓reduceIte, Nat.reduceEqDiff, Nat.one_ne_zero, Nat.zero_ne_one]
    · subst q
      obtain ⟨M2, a, b⟩ := lw_25 hh hL hI hi hn he
      refine ⟨M2, ?_, b⟩
      rw [← a]
      simp (disch := omega) only [st_225_33, nI_eq, ↓reduceIte, Nat.reduceEqDiff, Nat.one_ne_zero, Nat.zero_ne_one]
    · subst q
      obtain ⟨M2, a, b⟩ := lw_26 hh hL hI hi hn he
      refine ⟨M2, ?_, b⟩
      rw [← a]
      simp (disch := omega) only [st_225_33, nI_eq, ↓reduceIte, Nat.reduceEqDiff, Nat.one_ne_zero, Nat.zero_ne_one]
    · subst q
      obtain ⟨M2, a, b⟩ := lw_27 hh hL hI hi hn he
      refine ⟨M2, ?_, b⟩
      rw [← a]
      simp (disch := omega) only [st_225_33, nI_eq, ↓reduceIte, Nat.reduceEqDiff, Nat.one_ne_zero, Nat.zero_ne_one]
    · subst q
      obtain ⟨M2, a, b⟩ := lw_28 hh hL hI hi hn he
      refine ⟨M2, ?_, b⟩
      rw [← a]
      simp (disch := omega) only [st_225_33, nI_eq, ↓reduceIte, Nat.reduceEqDiff, Nat.one_ne_zero, Nat.zero_ne_one]
    · subst q
      obtain ⟨M2, a, b⟩ := lw_29 hh hL hI hi hn he
      refine ⟨M2, ?_, b⟩
      rw [← a]
      simp (disch := omega) only [st_225_33, nI_eq, ↓reduceIte, Nat.reduceEqDiff, Nat.one_ne_zero, Nat.zero_ne_one]
    · subst q
      obtain ⟨M2, a, b⟩ := lw_30 hh hL hI hi hn he
      refine ⟨M2, ?_, b⟩
      rw [← a]
      simp (disch := omega) only [st_225_33, nI_eq, ↓reduceIte, Nat.reduceEqDiff, Nat.one_ne_zero, Nat.zero_ne_one]
    · subst q
      obtain ⟨M2, a, b⟩ := lw_31 hh hL hI hi hn he
      refine ⟨M2, ?_, b⟩
      rw [← a]
      simp (disch := omega) only [st_225_33, nI_eq, ↓reduceIte, Nat.reduceEqDiff, Nat.one_ne_zero, Nat.zero_ne_one]
    · subst q
      obtain ⟨M2, a, b⟩ := lw_32 hh hL hI hi hn he
      refine ⟨M2, ?_, b⟩
      rw [← a]
      simp (disch := omega) only [st_225_33, nI_eq, ↓reduceIte, Nat.reduceEqDiff, Nat.one_ne_zero, Nat.zero_ne_one]
    · subst q
      obtain ⟨M2, a, b⟩ := lw_33 hh hL hI hi hn he
      refine ⟨M2, ?_, b⟩
      rw [← a]
      simp (disch := omega) only [st_225_33, nI_eq, ↓reduceIte, Nat.reduceEqDiff, Nat.one_ne_zero, Nat.zero_ne_one]
    · subst q
      obtain ⟨M2, a, b⟩ := lw_34 hh hL hI hi hn he
      refine ⟨M2, ?_, b⟩
      rw [← a]
      simp (disch := omega) only [st_225_33, nI_eq, ↓reduceIte, Nat.reduceEqDiff, Nat.one_ne_zero, Nat.zero_ne_one]
    · subst q
      obtain ⟨M2, a, b⟩ := lw_35 hh hL hI hi hn he
      refine ⟨M2, ?_, b⟩
      rw [← a]
      simp (disch := omega) only [st_225_33, nI_eq, ↓reduceIte, Nat.reduceEqDiff, Nat.one_ne_zero, Nat.zero_ne_one]
    · subst q
      obtain ⟨M2, a, b⟩ := lw_36 hh hL hI hi hn he
      refine ⟨M2, ?_, b⟩
      rw [← a]
      simp (disch := omega) only [st_225_33, nI_eq, ↓reduceIte, Nat.reduceEqDiff, Nat.one_ne_zero, Nat.zero_ne_one]
    · subst q
      obtain ⟨M2, a, b⟩ := lw_37 hh hL hI hi hn he
      refine ⟨M2, ?_, b⟩
      rw [← a]
      simp (disch := omega) only [st_225_33, nI_eq, ↓reduceIte, Nat.reduceEqDiff, Nat.one_ne_zero, Nat.zero_ne_one]
    · subst q
      obtain ⟨M2, a, b⟩ := lw_38 hh hL hI hi hn he
      refine ⟨M2, ?_, b⟩
      rw [← a]
      simp (disch := omega) only [st_225_33, nI_eq, ↓reduceIte, Nat.reduceEqDiff, Nat.one_ne_zero, Nat.zero_ne_one]
  · refine ⟨M, ?_, hI⟩
    have n0 := n_ne hx (j := 0) (by omega)
    have n1 := n_ne hx (j := 1) (by omega)
    have n2 := n_ne hx (j := 2) (by omega)
    have n3 := n_ne hx (j := 3) (by omega)
    have n4 := n_ne hx (j := 4) (by omega)
    have n5 := n_ne hx (j := 5) (by omega)
    have n6 := n_ne hx (j := 6) (by omega)
    have n7 := n_ne hx (j := 7) (by omega)
    have n8 := n_ne hx (j := 8) (by omega)
    have n9 := n_ne hx (j := 9) (by omega)
    have n10 := n_ne hx (j := 10) (by omega)
    have n11 := n_ne hx (j := 11) (by omega)
    have n12 := n_ne hx (j := 12) (by omega)
    have n13 := n_ne hx (j := 13) (by omega)
    have n14 := n_ne hx (j := 14) (by omega)
    have n15 := n_ne hx (j := 15) (by omega)
    have n16 := n_ne hx (j := 16) (by omega)
    have n17 := n_ne hx (j := 17) (by omega)
    have n18 := n_ne hx (j := 18) (by omega)
    have n19 := n_ne hx (j := 19) (by omega)
    have n20 := n_ne hx (j := 20) (by omega)
    have n21 := n_ne hx (j := 21) (by omega)
    have n22 := n_ne hx (j := 22) (by omega)
    have n23 := n_ne hx (j := 23) (by omega)
    have n24 := n_ne hx (j := 24) (by omega)
    have n25 := n_ne hx (j := 25) (by omega)
    have n26 := n_ne hx (j := 26) (by omega)
    have n27 := n_ne hx (j := 27) (by omega)
    have n28 := n_ne hx (j := 28) (by omega)
    have n29 := n_ne hx (j := 29) (by omega)
    have n30 := n_ne hx (j := 30) (by omega)
    have n31 := n_ne hx (j := 31) (by omega)
    have n32 := n_ne hx (j := 32) (by omega)
    have n33 := n_ne hx (j := 33) (by omega)
    have n34 := n_ne hx (j := 34) (by omega)
    have n35 := n_ne hx (j := 35) (by omega)
    have n36 := n_ne hx (j := 36) (by omega)
    have n37 := n_ne hx (j := 37) (by omega)
    have n38 := n_ne hx (j := 38) (by omega)
    simp only [st_225_33, ↓reduceIte, n0, n1, n2, n3, n4, n5, n6, n7, n8, n9, n10, n11, n12, n13, n14, n15, n16, n17, n18, n19, n20, n21, n22, n23, n24, n25, n26, n27, n28, n29, n30, n31, n32, n33, n34, n35, n36, n37, n38]
theorem lw_loop (hh : Hd h) (hL : hC h 1003 = 22 ∧ hN h 1003 = n) (hn : n ≤ 3072) {e : Nat} (he : 100 ≤ e) : ∀ r i (M : Nat → Nat → Int32), n ≤ 6 * r + i → i ≤ n → INv M → ∃ M', j_X e 225 18 [some (.ref 1003), some (.ref 1), some (.ref 115), some (.int (nI i))] [] (FS h M) = some (some (.int (nI 1)), FS h M') := by
  have l1 := hL.1
  have l2 := hL.2
  intro r
  induction r with
  | zero =>
    intro i M hr hi hI
    have c1 : nI n - nI 6 < nI i := by
      rw [nI_subz, nI_z i, zI_lt (by omega) (by omega) (by omega) (by omega)]; omega
    refine ⟨M, ?_⟩
    simp (disch := omega) only [st_225_18, st_225_19, st_225_20, st_225_21, st_225_23, st_225_24, ini_225, st_225_1417, st_225_1418, ini_225, fs_cl, fs_len, fs_rf, fs_M, fs_put, fs_cpy, ↓reduceIte, rv_ref, true_or, or_true, true_and, and_true, nI_ltI, ix_nI, nI_clamp, ps_i, ps_n, Option.bind_some, sm_0, sm_1, sm_2, sm_3, sm_4, sto_0, sto_1, sto_2, sto_3, sto_4, sto_5, sto_6, sto_7, sto_8, sto_9, sto_10, sto_11, sto_12, sto_13, sto_14, nlo_n, nlo_i, nlo_r, nlo_0, nlo_l, and_self, or_self, Nat.reduceEqDiff, Nat.reduceLT, Nat.reduceLeDiff, Nat.one_ne_zero, Nat.zero_ne_one, l1, l2, c1]
  | succ r ih =>
    intro i M hr hi hI
    by_cases c : i + 6 ≤ n
    · obtain ⟨M2, a, b⟩ := lw_step hh hL hI c hn he (M 1003 i &&& nI 63)
      obtain ⟨M', s⟩ := ih (i + 6) M2 (by omega) (by omega) b
      refine ⟨M', ?_⟩
      have c1 : ¬ nI n - nI 6 < nI i := by
        rw [nI_subz, nI_z i, zI_lt (by omega) (by omega) (by omega) (by omega)]; omega
      have i0 : i < n := by omega
      simp (disch := omega) only [st_225_18, st_225_19, st_225_20, st_225_21, st_225_23, st_225_24, st_225_27, st_225_28, st_225_29, st_225_30, st_225_32, ini_225, fs_cl, fs_len, fs_rf, fs_M, fs_put, fs_cpy, ↓reduceIte, rv_ref, true_or, or_true, true_and, and_true, nI_ltI, ix_nI, nI_clamp, ps_i, ps_n, Option.bind_some, sm_0, sm_1, sm_2, sm_3, sm_4, sto_0, sto_1, sto_2, sto_3, sto_4, sto_5, sto_6, sto_7, sto_8, sto_9, sto_10, sto_11, sto_12, sto_13, sto_14, nlo_n, nlo_i, nlo_r, nlo_0, nlo_l, and_self, or_self, Nat.reduceEqDiff, Nat.reduceLT, Nat.reduceLeDiff, Nat.one_ne_zero, Nat.zero_ne_one, l1, l2, c1, i0]
      rw [a]
      simp (disch := omega) only [st_225_1411, st_225_1414, ini_225, fs_cl, fs_len, fs_rf, fs_M, fs_put, fs_cpy, ↓reduceIte, rv_ref, true_or, or_true, true_and, and_true, nI_ltI, ix_nI, nI_clamp, ps_i, ps_n, Option.bind_some, sm_0, sm_1, sm_2, sm_3, sm_4, sto_0, sto_1, sto_2, sto_3, sto_4, sto_5, sto_6, sto_7, sto_8, sto_9, sto_10, sto_11, sto_12, sto_13, sto_14, nlo_n, nlo_i, nlo_r, nlo_0, nlo_l, and_self, or_self, Nat.reduceEqDiff, Nat.reduceLT, Nat.reduceLeDiff, Nat.one_ne_zero, Nat.zero_ne_one, nI_add]
      exact s
    · have c1 : nI n - nI 6 < nI i := by
        rw [nI_subz, nI_z i, zI_lt (by omega) (by omega) (by omega) (by omega)]; omega
      refine ⟨M, ?_⟩
      simp (disch := omega) only [st_225_18, st_225_19, st_225_20, st_225_21, st_225_23, st_225_24, ini_225, st_225_1417, st_225_1418, ini_225, fs_cl, fs_len, fs_rf, fs_M, fs_put, fs_cpy, ↓reduceIte, rv_ref, true_or, or_true, true_and, and_true, nI_ltI, ix_nI, nI_clamp, ps_i, ps_n, Option.bind_some, sm_0, sm_1, sm_2, sm_3, sm_4, sto_0, sto_1, sto_2, sto_3, sto_4, sto_5, sto_6, sto_7, sto_8, sto_9, sto_10, sto_11, sto_12, sto_13, sto_14, nlo_n, nlo_i, nlo_r, nlo_0, nlo_l, and_self, or_self, Nat.reduceEqDiff, Nat.reduceLT, Nat.reduceLeDiff, Nat.one_ne_zero, Nat.zero_ne_one, l1, l2, c1]
