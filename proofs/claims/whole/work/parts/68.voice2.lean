/-! Both sides: voices, the bodies. -/
variable {h : j_Hd} {M M1 M2 M3 : Nat → Nat → Int32} {o b sc sf ar n : Nat} {E E' : Nat → Nat} {z : Int32} {K0 K1 K : List Int32} {T : Nat → Nat} {W : Nat → Int32} {num mk : Int32} {k : Nat}
theorem Tr_c {v : Int32} {L : List Int32} (h1 : TrG sc sf ar M n M1 [v]) (h2 : TrG sc sf ar M1 (n + 1) M2 L) : TrG sc sf ar M n M2 (v :: L) := Tr_t (L := [v]) h1 h2
theorem h_sn (hh : Hd h) (hV : Vc M k num mk) {f dd : Nat} (hf : f < 7) (hd : dd ≤ 30) (x : Int32) (hn : M 98 1 = nI n) (hn2 : n + 2 ≤ 40) {e : Nat} (he : 6 ≤ e) : ∃ M1, j_C e 76 [.ref 97, .int (nI f), .int (nI 0), .int x, .int (nI dd)] (FS h M) = some (some (.int (snV num f x).1), FS h M1) ∧ TrG 98 1 99 M n M1 (snV num f x).2 := by
  obtain ⟨e, rfl⟩ : ∃ d, e = d + 2 := ⟨e - 2, by omega⟩
  have v0 := hh.2.2.2.2.1.1
  obtain ⟨M1, p1, p2⟩ := c76e hh hV hf (by omega : 0 < 4) (by omega : dd ≤ 40) x hn (by omega) (e := e + 1) (by omega)
  have hV1 := Vc_Tr p2 hV
  unfold snV
  by_cases c : f = 1 ∨ f = 4
  · have eo : ow f 0 = 1 := by unfold ow; rw [if_pos rfl, if_pos c]
    rw [eo] at p1 p2
    have eb : bdK (1 * 4 + 0) = 20 := rfl
    rw [eb] at p1 p2
    have ea : aI (abN 1) = nI 0 := rfl
    rw [ea] at p1
    rw [if_pos c]
    obtain ⟨M2, q1, q2⟩ := c76e hh hV1 (by omega : 0 < 7) (by omega : 0 < 4) (by omega : dd + 1 ≤ 40) x p2.1 (by show n + 1 < 40; omega) (e := e) (by omega)
    have hV2 := Vc_Tr q2 hV1
    have eo2 : ow 0 0 = 0 := rfl
    rw [eo2] at q1 q2
    have eb2 : bdK (0 * 4 + 0) = 10 := rfl
    rw [eb2] at q1 q2
    have qv : j_C (e + 1) 76 [.ref 97, .int (nI 0), .int (nI 0), .int x, .int (nI (dd + 1))] (FS h M1) = some (some (.int (x + num)), FS h M2) := by
      rw [q1]
      simp (disch := omega) only [st_76_54, st_76_152, st_76_153, st_76_154, st_76_157, st_76_158, ini_76, fs_cl, fs_len, fs_rf, fs_M, fs_put, fs_cpy, ↓reduceIte, rv_ref, true_or, or_true, true_and, and_true, nI_ltI, ix_nI, nI_clamp, ps_i, ps_n, Option.bind_some, sm_0, sm_1, sm_2, sm_3, sm_4, sto_0, sto_1, sto_2, sto_3, sto_4, sto_5, sto_6, sto_7, sto_8, sto_9, sto_10, sto_11, sto_12, sto_13, sto_14, nlo_n, nlo_i, nlo_r, nlo_0, nlo_l, and_self, or_self, Nat.reduceEqDiff, Nat.reduceLT, Nat.reduceLeDiff, Nat.one_ne_zero, Nat.zero_ne_one, v0, nI_eq, hV2.2.1]
    refine ⟨M2, ?_, Tr_c p2 q2⟩
    rw [p1]
    simp (disch := omega) only [st_76_54, st_76_152, st_76_153, st_76_154, st_76_157, st_76_158, st_76_159, st_76_160, st_76_161, st_76_164, st_76_165, st_76_166, st_76_168, st_76_171, st_76_172, st_76_173, st_76_174, st_76_175, st_76_176, st_76_179, st_76_180, st_76_181, st_76_182, st_76_183, st_76_186, st_76_187, st_76_188, st_76_190, st_76_193, st_76_194, st_76_195, st_76_198, st_76_199, st_76_200, st_76_202, st_76_205, st_76_206, st_76_207, st_76_208, st_76_210, st_76_211, st_76_212, st_76_214, st_76_217, st_76_218, st_76_219, st_76_220, st_76_221, st_76_223, st_76_224, st_76_225, st_76_227, st_76_230, st_76_231, st_76_232, st_76_233, st_76_235, st_76_236, st_76_237, st_76_239, st_76_242, st_76_243, st_76_244, st_76_247, st_76_248, st_76_249, st_76_251, st_76_254, st_76_255, st_76_256, st_76_257, st_76_259, st_76_260, st_76_261, st_76_263, st_76_266, st_76_267, st_76_268, st_76_271, st_76_272, st_76_273, st_76_275, st_76_278, st_76_279, st_76_280, st_76_281, st_76_283, st_76_284, st_76_285, st_76_287, st_76_290, st_76_291, st_76_294, st_76_295, st_76_296, st_76_297, st_76_298, st_76_301, st_76_302, st_76_303, st_76_305, st_76_308, st_76_309, st_76_311, st_76_312, st_76_313, st_76_315, st_76_318, st_76_319, st_76_320, st_76_321, st_76_323, st_76_324, st_76_325, st_76_326, st_76_327, st_76_329, st_76_332, st_76_333, st_76_334, ini_76, fs_cl, fs_len, fs_rf, fs_M, fs_put, fs_cpy, ↓reduceIte, rv_ref, true_or, or_true, true_and, and_true, nI_ltI, ix_nI, nI_clamp, ps_i, ps_n, Option.bind_some, sm_0, sm_1, sm_2, sm_3, sm_4, sto_0, sto_1, sto_2, sto_3, sto_4, sto_5, sto_6, sto_7, sto_8, sto_9, sto_10, sto_11, sto_12, sto_13, sto_14, nlo_n, nlo_i, nlo_r, nlo_0, nlo_l, and_self, or_self, Nat.reduceEqDiff, Nat.reduceLT, Nat.reduceLeDiff, Nat.one_ne_zero, Nat.zero_ne_one, v0, nI_eq, qv]
  · have eo : ow f 0 = 0 := by unfold ow; rw [if_pos rfl, if_neg c]
    rw [eo] at p1 p2
    have eb : bdK (0 * 4 + 0) = 10 := rfl
    rw [eb] at p1 p2
    rw [if_neg c]
    refine ⟨M1, ?_, p2⟩
    rw [p1]
    simp (disch := omega) only [st_76_54, st_76_152, st_76_153, st_76_154, st_76_157, st_76_158, ini_76, fs_cl, fs_len, fs_rf, fs_M, fs_put, fs_cpy, ↓reduceIte, rv_ref, true_or, or_true, true_and, and_true, nI_ltI, ix_nI, nI_clamp, ps_i, ps_n, Option.bind_some, sm_0, sm_1, sm_2, sm_3, sm_4, sto_0, sto_1, sto_2, sto_3, sto_4, sto_5, sto_6, sto_7, sto_8, sto_9, sto_10, sto_11, sto_12, sto_13, sto_14, nlo_n, nlo_i, nlo_r, nlo_0, nlo_l, and_self, or_self, Nat.reduceEqDiff, Nat.reduceLT, Nat.reduceLeDiff, Nat.one_ne_zero, Nat.zero_ne_one, v0, nI_eq, hV1.2.1]
theorem h_tk (hh : Hd h) (hV : Vc M k num mk) {f dd : Nat} (hf : f < 7) (hd : dd ≤ 30) (x : Int32) (hn : M 98 1 = nI n) (hn2 : n + 3 ≤ 40) {e : Nat} (he : 8 ≤ e) : ∃ M1, j_C e 76 [.ref 97, .int (nI f), .int (nI 2), .int x, .int (nI dd)] (FS h M) = some (some (.int (tkV num mk f x).1), FS h M1) ∧ TrG 98 1 99 M n M1 (tkV num mk f x).2 := by
  have v0 := hh.2.2.2.2.1.1
  -- from below
  have B0 : ∀ (M : Nat → Nat → Int32) (n f dd : Nat), f < 7 → ow f 2 = 0 → dd ≤ 35 → Vc M k num mk → M 98 1 = nI n → n + 1 ≤ 40 → ∀ e, 4 ≤ e → ∃ M1, j_C e 76 [.ref 97, .int (nI f), .int (nI 2), .int x, .int (nI dd)] (FS h M) = some (some (.int (x - mk)), FS h M1) ∧ TrG 98 1 99 M n M1 [nI 12] := by
    intro M n f dd hf eo hd hV hn hn2 e he
    obtain ⟨e, rfl⟩ : ∃ d, e = d + 1 := ⟨e - 1, by omega⟩
    obtain ⟨M1, p1, p2⟩ := c76e hh hV hf (by omega : 2 < 4) (by omega : dd ≤ 40) x hn (by omega) (e := e) (by omega)
    have hV1 := Vc_Tr p2 hV
    rw [eo] at p1 p2
    have eb : bdK (0 * 4 + 2) = 12 := rfl
    rw [eb] at p1 p2
    refine ⟨M1, ?_, p2⟩
    rw [p1]
    simp (disch := omega) only [st_76_54, st_76_152, st_76_153, st_76_154, st_76_157, st_76_158, st_76_159, st_76_160, st_76_161, st_76_164, st_76_165, st_76_166, st_76_168, st_76_171, st_76_172, st_76_173, st_76_174, st_76_175, st_76_176, st_76_179, st_76_180, ini_76, fs_cl, fs_len, fs_rf, fs_M, fs_put, fs_cpy, ↓reduceIte, rv_ref, true_or, or_true, true_and, and_true, nI_ltI, ix_nI, nI_clamp, ps_i, ps_n, Option.bind_some, sm_0, sm_1, sm_2, sm_3, sm_4, sto_0, sto_1, sto_2, sto_3, sto_4, sto_5, sto_6, sto_7, sto_8, sto_9, sto_10, sto_11, sto_12, sto_13, sto_14, nlo_n, nlo_i, nlo_r, nlo_0, nlo_l, and_self, or_self, Nat.reduceEqDiff, Nat.reduceLT, Nat.reduceLeDiff, Nat.one_ne_zero, Nat.zero_ne_one, v0, nI_eq, hV1.2.2.1]
  have B2 : ∀ (M : Nat → Nat → Int32) (n dd : Nat), dd ≤ 34 → Vc M k num mk → M 98 1 = nI n → n + 2 ≤ 40 → ∀ e, 6 ≤ e → ∃ M1, j_C e 76 [.ref 97, .int (nI 2), .int (nI 2), .int x, .int (nI dd)] (FS h M) = some (some (.int (-(x - mk))), FS h M1) ∧ TrG 98 1 99 M n M1 [nI 30, nI 12] := by
    intro M n dd hd hV hn hn2 e he
    obtain ⟨e, rfl⟩ : ∃ d, e = d + 1 := ⟨e - 1, by omega⟩
    obtain ⟨M1, p1, p2⟩ := c76e hh hV (by omega : 2 < 7) (by omega : 2 < 4) (by omega : dd ≤ 40) x hn (by omega) (e := e) (by omega)
    have hV1 := Vc_Tr p2 hV
    have eo : ow 2 2 = 2 := rfl
    rw [eo] at p1 p2
    have eb : bdK (2 * 4 + 2) = 30 := rfl
    rw [eb] at p1 p2
    have ea : aI (abN 2) = nI 0 := rfl
    rw [ea] at p1
    obtain ⟨M2, q1, q2⟩ := B0 M1 (n + 1) 0 (dd + 1) (by omega) rfl (by omega) hV1 p2.1 (by omega) e (by omega)
    refine ⟨M2, ?_, Tr_c p2 q2⟩
    rw [p1]
    simp (disch := omega) only [st_76_54, st_76_152, st_76_153, st_76_154, st_76_157, st_76_158, st_76_159, st_76_160, st_76_161, st_76_164, st_76_165, st_76_166, st_76_168, st_76_171, st_76_172, st_76_173, st_76_174, st_76_175, st_76_176, st_76_179, st_76_180, st_76_181, st_76_182, st_76_183, st_76_186, st_76_187, st_76_188, st_76_190, st_76_193, st_76_194, st_76_195, st_76_198, st_76_199, st_76_200, st_76_202, st_76_205, st_76_206, st_76_207, st_76_208, st_76_210, st_76_211, st_76_212, st_76_214, st_76_217, st_76_218, st_76_219, st_76_220, st_76_221, st_76_223, st_76_224, st_76_225, st_76_227, st_76_230, st_76_231, st_76_232, st_76_233, st_76_235, st_76_236, st_76_237, st_76_239, st_76_242, st_76_243, st_76_244, st_76_247, st_76_248, st_76_249, st_76_251, st_76_254, st_76_255, st_76_256, st_76_257, st_76_259, st_76_260, st_76_261, st_76_263, st_76_266, st_76_267, st_76_268, st_76_271, st_76_272, st_76_273, st_76_275, st_76_278, st_76_279, st_76_280, st_76_281, st_76_283, st_76_284, st_76_285, st_76_287, st_76_290, st_76_291, st_76_294, st_76_295, st_76_296, st_76_297, st_76_298, st_76_301, st_76_302, st_76_303, st_76_305, st_76_308, st_76_309, st_76_311, st_76_312, st_76_313, st_76_315, st_76_318, st_76_319, st_76_320, st_76_321, st_76_323, st_76_324, st_76_325, st_76_326, st_76_327, st_76_329, st_76_332, st_76_333, st_76_334, ini_76, fs_cl, fs_len, fs_rf, fs_M, fs_put, fs_cpy, ↓reduceIte, rv_ref, true_or, or_true, true_and, and_true, nI_ltI, ix_nI, nI_clamp, ps_i, ps_n, Option.bind_some, sm_0, sm_1, sm_2, sm_3, sm_4, sto_0, sto_1, sto_2, sto_3, sto_4, sto_5, sto_6, sto_7, sto_8, sto_9, sto_10, sto_11, sto_12, sto_13, sto_14, nlo_n, nlo_i, nlo_r, nlo_0, nlo_l, and_self, or_self, Nat.reduceEqDiff, Nat.reduceLT, Nat.reduceLeDiff, Nat.one_ne_zero, Nat.zero_ne_one, v0, nI_eq, q1]
  unfold tkV
  by_cases c2 : f = 2
  · rw [if_pos c2]
    subst c2
    exact B2 M n dd (by omega) hV hn (by omega) e (by omega)
  · rw [if_neg c2]
    by_cases c5 : f = 5
    · rw [if_pos c5]
      subst c5
      obtain ⟨e, rfl⟩ : ∃ d, e = d + 1 := ⟨e - 1, by omega⟩
      obtain ⟨M1, p1, p2⟩ := c76e hh hV (by omega : 5 < 7) (by omega : 2 < 4) (by omega : dd ≤ 40) x hn (by omega) (e := e) (by omega)
      have hV1 := Vc_Tr p2 hV
      have eo : ow 5 2 = 5 := rfl
      rw [eo] at p1 p2
      have eb : bdK (5 * 4 + 2) = 60 := rfl
      rw [eb] at p1 p2
      have ea : aI (abN 5) = nI 2 := rfl
      rw [ea] at p1
      obtain ⟨M2, q1, q2⟩ := B2 M1 (n + 1) (dd + 1) (by omega) hV1 p2.1 (by omega) e (by omega)
      have hV2 := Vc_Tr q2 hV1
      refine ⟨M2, ?_, Tr_c p2 q2⟩
      rw [p1]
      simp (disch := omega) only [st_76_54, st_76_152, st_76_153, st_76_154, st_76_157, st_76_158, st_76_159, st_76_160, st_76_161, st_76_164, st_76_165, st_76_166, st_76_168, st_76_171, st_76_172, st_76_173, st_76_174, st_76_175, st_76_176, st_76_179, st_76_180, st_76_181, st_76_182, st_76_183, st_76_186, st_76_187, st_76_188, st_76_190, st_76_193, st_76_194, st_76_195, st_76_198, st_76_199, st_76_200, st_76_202, st_76_205, st_76_206, st_76_207, st_76_208, st_76_210, st_76_211, st_76_212, st_76_214, st_76_217, st_76_218, st_76_219, st_76_220, st_76_221, st_76_223, st_76_224, st_76_225, st_76_227, st_76_230, st_76_231, st_76_232, st_76_233, st_76_235, st_76_236, st_76_237, st_76_239, st_76_242, st_76_243, st_76_244, st_76_247, st_76_248, st_76_249, st_76_251, st_76_254, st_76_255, st_76_256, st_76_257, st_76_259, st_76_260, st_76_261, st_76_263, st_76_266, st_76_267, st_76_268, st_76_271, st_76_272, st_76_273, st_76_275, st_76_278, st_76_279, st_76_280, st_76_281, st_76_283, st_76_284, st_76_285, st_76_287, st_76_290, st_76_291, st_76_294, st_76_295, st_76_296, st_76_297, st_76_298, st_76_301, st_76_302, st_76_303, st_76_305, st_76_308, st_76_309, st_76_311, st_76_312, st_76_313, st_76_315, st_76_318, st_76_319, st_76_320, st_76_321, st_76_323, st_76_324, st_76_325, st_76_326, st_76_327, st_76_329, st_76_332, st_76_333, st_76_334, ini_76, fs_cl, fs_len, fs_rf, fs_M, fs_put, fs_cpy, ↓reduceIte, rv_ref, true_or, or_true, true_and, and_true, nI_ltI, ix_nI, nI_clamp, ps_i, ps_n, Option.bind_some, sm_0, sm_1, sm_2, sm_3, sm_4, sto_0, sto_1, sto_2, sto_3, sto_4, sto_5, sto_6, sto_7, sto_8, sto_9, sto_10, sto_11, sto_12, sto_13, sto_14, nlo_n, nlo_i, nlo_r, nlo_0, nlo_l, and_self, or_self, Nat.reduceEqDiff, Nat.reduceLT, Nat.reduceLeDiff, Nat.one_ne_zero, Nat.zero_ne_one, v0, nI_eq, q1, hV2.2.1]
    · rw [if_neg c5]
      have eo : ow f 2 = 0 := by unfold ow; rw [if_neg (by omega), if_neg (by omega), if_pos rfl, if_neg c2, if_neg c5]
      exact B0 M n f dd hf eo (by omega) hV hn (by omega) e (by omega)
theorem h_sl0 (hh : Hd h) (hV : Vc M k num mk) {f dd : Nat} (hf : f < 7) (ho : ow f 1 = 0) (hd : dd ≤ 20) (x : Int32) (hn : M 98 1 = nI n) (hn2 : n + 3 ≤ 40) {e : Nat} (he : 8 ≤ e) : ∃ M1, j_C e 76 [.ref 97, .int (nI f), .int (nI 1), .int x, .int (nI dd)] (FS h M) = some (some (.int (sl0 num k x).1), FS h M1) ∧ TrG 98 1 99 M n M1 (sl0 num k x).2 := by
  obtain ⟨e, rfl⟩ : ∃ d, e = d + 1 := ⟨e - 1, by omega⟩
  have v0 := hh.2.2.2.2.1.1
  obtain ⟨M1, p1, p2⟩ := c76e hh hV hf (by omega : 1 < 4) (by omega : dd ≤ 40) x hn (by omega) (e := e) (by omega)
  have hV1 := Vc_Tr p2 hV
  rw [ho] at p1 p2
  have eb : bdK (0 * 4 + 1) = 11 := rfl
  rw [eb] at p1 p2
  obtain ⟨M2, q1, q2⟩ := h_sn hh hV1 hV1.2.2.2.1 (by omega : dd + 1 ≤ 30) x p2.1 (by show n + 1 + 2 ≤ 40; omega) (e := e) (by omega)
  refine ⟨M2, ?_, Tr_c p2 q2⟩
  rw [p1]
  simp (disch := omega) only [st_76_54, st_76_152, st_76_153, st_76_154, st_76_157, st_76_158, st_76_159, st_76_160, st_76_161, st_76_164, st_76_165, st_76_166, st_76_168, st_76_171, st_76_172, st_76_173, st_76_174, st_76_175, st_76_176, st_76_179, st_76_180, st_76_181, st_76_182, st_76_183, st_76_186, st_76_187, st_76_188, st_76_190, st_76_193, st_76_194, st_76_195, st_76_198, st_76_199, st_76_200, st_76_202, st_76_205, st_76_206, st_76_207, st_76_208, st_76_210, st_76_211, st_76_212, st_76_214, st_76_217, st_76_218, st_76_219, st_76_220, st_76_221, st_76_223, st_76_224, st_76_225, st_76_227, st_76_230, st_76_231, st_76_232, st_76_233, st_76_235, st_76_236, st_76_237, st_76_239, st_76_242, st_76_243, st_76_244, st_76_247, st_76_248, st_76_249, st_76_251, st_76_254, st_76_255, st_76_256, st_76_257, st_76_259, st_76_260, st_76_261, st_76_263, st_76_266, st_76_267, st_76_268, st_76_271, st_76_272, st_76_273, st_76_275, st_76_278, st_76_279, st_76_280, st_76_281, st_76_283, st_76_284, st_76_285, st_76_287, st_76_290, st_76_291, st_76_294, st_76_295, st_76_296, st_76_297, st_76_298, st_76_301, st_76_302, st_76_303, st_76_305, st_76_308, st_76_309, st_76_311, st_76_312, st_76_313, st_76_315, st_76_318, st_76_319, st_76_320, st_76_321, st_76_323, st_76_324, st_76_325, st_76_326, st_76_327, st_76_329, st_76_332, st_76_333, st_76_334, ini_76, fs_cl, fs_len, fs_rf, fs_M, fs_put, fs_cpy, ↓reduceIte, rv_ref, true_or, or_true, true_and, and_true, nI_ltI, ix_nI, nI_clamp, ps_i, ps_n, Option.bind_some, sm_0, sm_1, sm_2, sm_3, sm_4, sto_0, sto_1, sto_2, sto_3, sto_4, sto_5, sto_6, sto_7, sto_8, sto_9, sto_10, sto_11, sto_12, sto_13, sto_14, nlo_n, nlo_i, nlo_r, nlo_0, nlo_l, and_self, or_self, Nat.reduceEqDiff, Nat.reduceLT, Nat.reduceLeDiff, Nat.one_ne_zero, Nat.zero_ne_one, v0, nI_eq, hV1.1, q1]
  rfl
theorem h_sl3 (hh : Hd h) (hV : Vc M k num mk) {dd : Nat} (hd : dd ≤ 19) (x : Int32) (hn : M 98 1 = nI n) (hn2 : n + 7 ≤ 40) {e : Nat} (he : 10 ≤ e) : ∃ M1, j_C e 76 [.ref 97, .int (nI 3), .int (nI 1), .int x, .int (nI dd)] (FS h M) = some (some (.int (sl3 num mk k x).1), FS h M1) ∧ TrG 98 1 99 M n M1 (sl3 num mk k x).2 := by
  obtain ⟨e, rfl⟩ : ∃ d, e = d + 1 := ⟨e - 1, by omega⟩
  have v0 := hh.2.2.2.2.1.1
  obtain ⟨M1, p1, p2⟩ := c76e hh hV (by omega : 3 < 7) (by omega : 1 < 4) (by omega : dd ≤ 40) x hn (by omega) (e := e) (by omega)
  have hV1 := Vc_Tr p2 hV
  have eo : ow 3 1 = 3 := rfl
  rw [eo] at p1 p2
  have eb : bdK (3 * 4 + 1) = 40 := rfl
  rw [eb] at p1 p2
  have ea : aI (abN 3) = nI 0 := rfl
  rw [ea] at p1
  have l0 := sl0_len (num := num) (k := k) x
  obtain ⟨M2, q1, q2⟩ := h_sl0 hh hV1 (by omega : 0 < 7) rfl (by omega : dd + 1 ≤ 20) x p2.1 (by show n + 1 + 3 ≤ 40; omega) (e := e) (by omega)
  have hV2 := Vc_Tr q2 hV1
  obtain ⟨M3, s1, s2⟩ := h_tk hh hV2 hV2.2.2.2.1 (by omega : dd + 1 ≤ 30) (nI 1) q2.1 (by show n + 1 + (sl0 num k x).2.length + 3 ≤ 40; omega) (e := e) (by omega)
  refine ⟨M3, ?_, Tr_c p2 (Tr_t q2 s2)⟩
  rw [p1]
  simp (disch := omega) only [st_76_54, st_76_152, st_76_153, st_76_154, st_76_157, st_76_158, st_76_159, st_76_160, st_76_161, st_76_164, st_76_165, st_76_166, st_76_168, st_76_171, st_76_172, st_76_173, st_76_174, st_76_175, st_76_176, st_76_179, st_76_180, st_76_181, st_76_182, st_76_183, st_76_186, st_76_187, st_76_188, st_76_190, st_76_193, st_76_194, st_76_195, st_76_198, st_76_199, st_76_200, st_76_202, st_76_205, st_76_206, st_76_207, st_76_208, st_76_210, st_76_211, st_76_212, st_76_214, st_76_217, st_76_218, st_76_219, st_76_220, st_76_221, st_76_223, st_76_224, st_76_225, st_76_227, st_76_230, st_76_231, st_76_232, st_76_233, st_76_235, st_76_236, st_76_237, st_76_239, st_76_242, st_76_243, st_76_244, st_76_247, st_76_248, st_76_249, st_76_251, st_76_254, st_76_255, st_76_256, st_76_257, st_76_259, st_76_260, st_76_261, st_76_263, st_76_266, st_76_267, st_76_268, st_76_271, st_76_272, st_76_273, st_76_275, st_76_278, st_76_279, st_76_280, st_76_281, st_76_283, st_76_284, st_76_285, st_76_287, st_76_290, st_76_291, st_76_294, st_76_295, st_76_296, st_76_297, st_76_298, st_76_301, st_76_302, st_76_303, st_76_305, st_76_308, st_76_309, st_76_311, st_76_312, st_76_313, st_76_315, st_76_318, st_76_319, st_76_320, st_76_321, st_76_323, st_76_324, st_76_325, st_76_326, st_76_327, st_76_329, st_76_332, st_76_333, st_76_334, ini_76, fs_cl, fs_len, fs_rf, fs_M, fs_put, fs_cpy, ↓reduceIte, rv_ref, true_or, or_true, true_and, and_true, nI_ltI, ix_nI, nI_clamp, ps_i, ps_n, Option.bind_some, sm_0, sm_1, sm_2, sm_3, sm_4, sto_0, sto_1, sto_2, sto_3, sto_4, sto_5, sto_6, sto_7, sto_8, sto_9, sto_10, sto_11, sto_12, sto_13, sto_14, nlo_n, nlo_i, nlo_r, nlo_0, nlo_l, and_self, or_self, Nat.reduceEqDiff, Nat.reduceLT, Nat.reduceLeDiff, Nat.one_ne_zero, Nat.zero_ne_one, v0, nI_eq, hV2.1, q1, s1]
  rfl
theorem h_sl (hh : Hd h) (hV : Vc M k num mk) {f dd : Nat} (hf : f < 7) (hd : dd ≤ 18) (x : Int32) (hn : M 98 1 = nI n) (hn2 : n + 8 ≤ 40) {e : Nat} (he : 12 ≤ e) : ∃ M1, j_C e 76 [.ref 97, .int (nI f), .int (nI 1), .int x, .int (nI dd)] (FS h M) = some (some (.int (slV num mk k f x).1), FS h M1) ∧ TrG 98 1 99 M n M1 (slV num mk k f x).2 := by
  have v0 := hh.2.2.2.2.1.1
  unfold slV
  by_cases c3 : f = 3
  · rw [if_pos c3]; subst c3
    exact h_sl3 hh hV (by omega) x hn (by omega) (by omega)
  · rw [if_neg c3]
    by_cases c6 : f = 6
    · rw [if_pos c6]; subst c6
      obtain ⟨e, rfl⟩ : ∃ d, e = d + 1 := ⟨e - 1, by omega⟩
      obtain ⟨M1, p1, p2⟩ := c76e hh hV (by omega : 6 < 7) (by omega : 1 < 4) (by omega : dd ≤ 40) x hn (by omega) (e := e) (by omega)
      have hV1 := Vc_Tr p2 hV
      have eo : ow 6 1 = 6 := rfl
      rw [eo] at p1 p2
      have eb : bdK (6 * 4 + 1) = 70 := rfl
      rw [eb] at p1 p2
      have ea : aI (abN 6) = nI 3 := rfl
      rw [ea] at p1
      obtain ⟨M2, q1, q2⟩ := h_sl3 hh hV1 (by omega : dd + 1 ≤ 19) (x + nI 1) p2.1 (by show n + 1 + 7 ≤ 40; omega) (e := e) (by omega)
      refine ⟨M2, ?_, Tr_c p2 q2⟩
      rw [p1]
      simp (disch := omega) only [st_76_54, st_76_152, st_76_153, st_76_154, st_76_157, st_76_158, st_76_159, st_76_160, st_76_161, st_76_164, st_76_165, st_76_166, st_76_168, st_76_171, st_76_172, st_76_173, st_76_174, st_76_175, st_76_176, st_76_179, st_76_180, st_76_181, st_76_182, st_76_183, st_76_186, st_76_187, st_76_188, st_76_190, st_76_193, st_76_194, st_76_195, st_76_198, st_76_199, st_76_200, st_76_202, st_76_205, st_76_206, st_76_207, st_76_208, st_76_210, st_76_211, st_76_212, st_76_214, st_76_217, st_76_218, st_76_219, st_76_220, st_76_221, st_76_223, st_76_224, st_76_225, st_76_227, st_76_230, st_76_231, st_76_232, st_76_233, st_76_235, st_76_236, st_76_237, st_76_239, st_76_242, st_76_243, st_76_244, st_76_247, st_76_248, st_76_249, st_76_251, st_76_254, st_76_255, st_76_256, st_76_257, st_76_259, st_76_260, st_76_261, st_76_263, st_76_266, st_76_267, st_76_268, st_76_271, st_76_272, st_76_273, st_76_275, st_76_278, st_76_279, st_76_280, st_76_281, st_76_283, st_76_284, st_76_285, st_76_287, st_76_290, st_76_291, st_76_294, st_76_295, st_76_296, st_76_297, st_76_298, st_76_301, st_76_302, st_76_303, st_76_305, st_76_308, st_76_309, st_76_311, st_76_312, st_76_313, st_76_315, st_76_318, st_76_319, st_76_320, st_76_321, st_76_323, st_76_324, st_76_325, st_76_326, st_76_327, st_76_329, st_76_332, st_76_333, st_76_334, ini_76, fs_cl, fs_len, fs_rf, fs_M, fs_put, fs_cpy, ↓reduceIte, rv_ref, true_or, or_true, true_and, and_true, nI_ltI, ix_nI, nI_clamp, ps_i, ps_n, Option.bind_some, sm_0, sm_1, sm_2, sm_3, sm_4, sto_0, sto_1, sto_2, sto_3, sto_4, sto_5, sto_6, sto_7, sto_8, sto_9, sto_10, sto_11, sto_12, sto_13, sto_14, nlo_n, nlo_i, nlo_r, nlo_0, nlo_l, and_self, or_self, Nat.reduceEqDiff, Nat.reduceLT, Nat.reduceLeDiff, Nat.one_ne_zero, Nat.zero_ne_one, v0, nI_eq, q1]
    · rw [if_neg c6]
      have eo : ow f 1 = 0 := by unfold ow; rw [if_neg (by omega), if_pos rfl, if_neg c3, if_neg c6]
      exact h_sl0 hh hV hf eo (by omega) x hn (by omega) (by omega)
theorem h_tl0 (hh : Hd h) (hV : Vc M k num mk) {f dd : Nat} (hf : f < 7) (ho : ow f 3 = 0) (hd : dd ≤ 17) (x : Int32) (hn : M 98 1 = nI n) (hn2 : n + 12 ≤ 40) {e : Nat} (he : 14 ≤ e) : ∃ M1, j_C e 76 [.ref 97, .int (nI f), .int (nI 3), .int x, .int (nI dd)] (FS h M) = some (some (.int (tl0 num mk k x).1), FS h M1) ∧ TrG 98 1 99 M n M1 (tl0 num mk k x).2 := by
  obtain ⟨e, rfl⟩ : ∃ d, e = d + 1 := ⟨e - 1, by omega⟩
  have v0 := hh.2.2.2.2.1.1
  obtain ⟨M1, p1, p2⟩ := c76e hh hV hf (by omega : 3 < 4) (by omega : dd ≤ 40) x hn (by omega) (e := e) (by omega)
  have hV1 := Vc_Tr p2 hV
  rw [ho] at p1 p2
  have eb : bdK (0 * 4 + 3) = 13 := rfl
  rw [eb] at p1 p2
  have l0 := sl_len (num := num) (mk := mk) (k := k) k x
  obtain ⟨M2, q1, q2⟩ := h_sl hh hV1 hV1.2.2.2.1 (by omega : dd + 1 ≤ 18) x p2.1 (by show n + 1 + 8 ≤ 40; omega) (e := e) (by omega)
  have hV2 := Vc_Tr q2 hV1
  obtain ⟨M3, s1, s2⟩ := h_tk hh hV2 hV2.2.2.2.1 (by omega : dd + 1 ≤ 30) x q2.1 (by show n + 1 + (slV num mk k k x).2.length + 3 ≤ 40; omega) (e := e) (by omega)
  refine ⟨M3, ?_, Tr_c p2 (Tr_t q2 s2)⟩
  rw [p1]
  simp (disch := omega) only [st_76_54, st_76_152, st_76_153, st_76_154, st_76_157, st_76_158, st_76_159, st_76_160, st_76_161, st_76_164, st_76_165, st_76_166, st_76_168, st_76_171, st_76_172, st_76_173, st_76_174, st_76_175, st_76_176, st_76_179, st_76_180, st_76_181, st_76_182, st_76_183, st_76_186, st_76_187, st_76_188, st_76_190, st_76_193, st_76_194, st_76_195, st_76_198, st_76_199, st_76_200, st_76_202, st_76_205, st_76_206, st_76_207, st_76_208, st_76_210, st_76_211, st_76_212, st_76_214, st_76_217, st_76_218, st_76_219, st_76_220, st_76_221, st_76_223, st_76_224, st_76_225, st_76_227, st_76_230, st_76_231, st_76_232, st_76_233, st_76_235, st_76_236, st_76_237, st_76_239, st_76_242, st_76_243, st_76_244, st_76_247, st_76_248, st_76_249, st_76_251, st_76_254, st_76_255, st_76_256, st_76_257, st_76_259, st_76_260, st_76_261, st_76_263, st_76_266, st_76_267, st_76_268, st_76_271, st_76_272, st_76_273, st_76_275, st_76_278, st_76_279, st_76_280, st_76_281, st_76_283, st_76_284, st_76_285, st_76_287, st_76_290, st_76_291, st_76_294, st_76_295, st_76_296, st_76_297, st_76_298, st_76_301, st_76_302, st_76_303, st_76_305, st_76_308, st_76_309, st_76_311, st_76_312, st_76_313, st_76_315, st_76_318, st_76_319, st_76_320, st_76_321, st_76_323, st_76_324, st_76_325, st_76_326, st_76_327, st_76_329, st_76_332, st_76_333, st_76_334, ini_76, fs_cl, fs_len, fs_rf, fs_M, fs_put, fs_cpy, ↓reduceIte, rv_ref, true_or, or_true, true_and, and_true, nI_ltI, ix_nI, nI_clamp, ps_i, ps_n, Option.bind_some, sm_0, sm_1, sm_2, sm_3, sm_4, sto_0, sto_1, sto_2, sto_3, sto_4, sto_5, sto_6, sto_7, sto_8, sto_9, sto_10, sto_11, sto_12, sto_13, sto_14, nlo_n, nlo_i, nlo_r, nlo_0, nlo_l, and_self, or_self, Nat.reduceEqDiff, Nat.reduceLT, Nat.reduceLeDiff, Nat.one_ne_zero, Nat.zero_ne_one, v0, nI_eq, hV1.1, hV2.1, q1, s1]
  rfl
theorem h_tl (hh : Hd h) (hV : Vc M k num mk) {f dd : Nat} (hf : f < 7) (hd : dd ≤ 16) (x : Int32) (hn : M 98 1 = nI n) (hn2 : n + 21 ≤ 40) {e : Nat} (he : 16 ≤ e) : ∃ M1, j_C e 76 [.ref 97, .int (nI f), .int (nI 3), .int x, .int (nI dd)] (FS h M) = some (some (.int (tlV num mk k f x).1), FS h M1) ∧ TrG 98 1 99 M n M1 (tlV num mk k f x).2 := by
  have v0 := hh.2.2.2.2.1.1
  unfold tlV
  by_cases c4 : f = 4
  · rw [if_pos c4]; subst c4
    obtain ⟨e, rfl⟩ : ∃ d, e = d + 1 := ⟨e - 1, by omega⟩
    obtain ⟨M1, p1, p2⟩ := c76e hh hV (by omega : 4 < 7) (by omega : 3 < 4) (by omega : dd ≤ 40) x hn (by omega) (e := e) (by omega)
    have hV1 := Vc_Tr p2 hV
    have eo : ow 4 3 = 4 := rfl
    rw [eo] at p1 p2
    have eb : bdK (4 * 4 + 3) = 50 := rfl
    rw [eb] at p1 p2
    have ea : aI (abN 4) = nI 1 := rfl
    rw [ea] at p1
    have l0 := tl0_len (num := num) (mk := mk) (k := k) x
    obtain ⟨M2, q1, q2⟩ := h_tl0 hh hV1 (by omega : 1 < 7) rfl (by omega : dd + 1 ≤ 17) x p2.1 (by show n + 1 + 12 ≤ 40; omega) (e := e) (by omega)
    have hV2 := Vc_Tr q2 hV1
    obtain ⟨M3, s1, s2⟩ := h_sn hh hV2 hV2.2.2.2.1 (by omega : dd + 1 ≤ 30) (nI 2) q2.1 (by show n + 1 + (tl0 num mk k x).2.length + 2 ≤ 40; omega) (e := e) (by omega)
    refine ⟨M3, ?_, Tr_c p2 (Tr_t q2 s2)⟩
    rw [p1]
    simp (disch := omega) only [st_76_54, st_76_152, st_76_153, st_76_154, st_76_157, st_76_158, st_76_159, st_76_160, st_76_161, st_76_164, st_76_165, st_76_166, st_76_168, st_76_171, st_76_172, st_76_173, st_76_174, st_76_175, st_76_176, st_76_179, st_76_180, st_76_181, st_76_182, st_76_183, st_76_186, st_76_187, st_76_188, st_76_190, st_76_193, st_76_194, st_76_195, st_76_198, st_76_199, st_76_200, st_76_202, st_76_205, st_76_206, st_76_207, st_76_208, st_76_210, st_76_211, st_76_212, st_76_214, st_76_217, st_76_218, st_76_219, st_76_220, st_76_221, st_76_223, st_76_224, st_76_225, st_76_227, st_76_230, st_76_231, st_76_232, st_76_233, st_76_235, st_76_236, st_76_237, st_76_239, st_76_242, st_76_243, st_76_244, st_76_247, st_76_248, st_76_249, st_76_251, st_76_254, st_76_255, st_76_256, st_76_257, st_76_259, st_76_260, st_76_261, st_76_263, st_76_266, st_76_267, st_76_268, st_76_271, st_76_272, st_76_273, st_76_275, st_76_278, st_76_279, st_76_280, st_76_281, st_76_283, st_76_284, st_76_285, st_76_287, st_76_290, st_76_291, st_76_294, st_76_295, st_76_296, st_76_297, st_76_298, st_76_301, st_76_302, st_76_303, st_76_305, st_76_308, st_76_309, st_76_311, st_76_312, st_76_313, st_76_315, st_76_318, st_76_319, st_76_320, st_76_321, st_76_323, st_76_324, st_76_325, st_76_326, st_76_327, st_76_329, st_76_332, st_76_333, st_76_334, ini_76, fs_cl, fs_len, fs_rf, fs_M, fs_put, fs_cpy, ↓reduceIte, rv_ref, true_or, or_true, true_and, and_true, nI_ltI, ix_nI, nI_clamp, ps_i, ps_n, Option.bind_some, sm_0, sm_1, sm_2, sm_3, sm_4, sto_0, sto_1, sto_2, sto_3, sto_4, sto_5, sto_6, sto_7, sto_8, sto_9, sto_10, sto_11, sto_12, sto_13, sto_14, nlo_n, nlo_i, nlo_r, nlo_0, nlo_l, and_self, or_self, Nat.reduceEqDiff, Nat.reduceLT, Nat.reduceLeDiff, Nat.one_ne_zero, Nat.zero_ne_one, v0, nI_eq, hV2.1, q1, s1]
  · rw [if_neg c4]
    by_cases c5 : f = 5
    · rw [if_pos c5]; subst c5
      obtain ⟨e, rfl⟩ : ∃ d, e = d + 1 := ⟨e - 1, by omega⟩
      obtain ⟨M1, p1, p2⟩ := c76e hh hV (by omega : 5 < 7) (by omega : 3 < 4) (by omega : dd ≤ 40) x hn (by omega) (e := e) (by omega)
      have hV1 := Vc_Tr p2 hV
      have eo : ow 5 3 = 5 := rfl
      rw [eo] at p1 p2
      have eb : bdK (5 * 4 + 3) = 61 := rfl
      rw [eb] at p1 p2
      have ea : aI (abN 5) = nI 2 := rfl
      rw [ea] at p1
      have l0 := sl_len (num := num) (mk := mk) (k := k) k x
      obtain ⟨M2, q1, q2⟩ := h_sl hh hV1 hV1.2.2.2.1 (by omega : dd + 1 ≤ 18) x p2.1 (by show n + 1 + 8 ≤ 40; omega) (e := e) (by omega)
      have hV2 := Vc_Tr q2 hV1
      obtain ⟨M3, s1, s2⟩ := h_tl0 hh hV2 (by omega : 2 < 7) rfl (by omega : dd + 1 ≤ 17) x q2.1 (by show n + 1 + (slV num mk k k x).2.length + 12 ≤ 40; omega) (e := e) (by omega)
      refine ⟨M3, ?_, Tr_c p2 (Tr_t q2 s2)⟩
      rw [p1]
      simp (disch := omega) only [st_76_54, st_76_152, st_76_153, st_76_154, st_76_157, st_76_158, st_76_159, st_76_160, st_76_161, st_76_164, st_76_165, st_76_166, st_76_168, st_76_171, st_76_172, st_76_173, st_76_174, st_76_175, st_76_176, st_76_179, st_76_180, st_76_181, st_76_182, st_76_183, st_76_186, st_76_187, st_76_188, st_76_190, st_76_193, st_76_194, st_76_195, st_76_198, st_76_199, st_76_200, st_76_202, st_76_205, st_76_206, st_76_207, st_76_208, st_76_210, st_76_211, st_76_212, st_76_214, st_76_217, st_76_218, st_76_219, st_76_220, st_76_221, st_76_223, st_76_224, st_76_225, st_76_227, st_76_230, st_76_231, st_76_232, st_76_233, st_76_235, st_76_236, st_76_237, st_76_239, st_76_242, st_76_243, st_76_244, st_76_247, st_76_248, st_76_249, st_76_251, st_76_254, st_76_255, st_76_256, st_76_257, st_76_259, st_76_260, st_76_261, st_76_263, st_76_266, st_76_267, st_76_268, st_76_271, st_76_272, st_76_273, st_76_275, st_76_278, st_76_279, st_76_280, st_76_281, st_76_283, st_76_284, st_76_285, st_76_287, st_76_290, st_76_291, st_76_294, st_76_295, st_76_296, st_76_297, st_76_298, st_76_301, st_76_302, st_76_303, st_76_305, st_76_308, st_76_309, st_76_311, st_76_312, st_76_313, st_76_315, st_76_318, st_76_319, st_76_320, st_76_321, st_76_323, st_76_324, st_76_325, st_76_326, st_76_327, st_76_329, st_76_332, st_76_333, st_76_334, ini_76, fs_cl, fs_len, fs_rf, fs_M, fs_put, fs_cpy, ↓reduceIte, rv_ref, true_or, or_true, true_and, and_true, nI_ltI, ix_nI, nI_clamp, ps_i, ps_n, Option.bind_some, sm_0, sm_1, sm_2, sm_3, sm_4, sto_0, sto_1, sto_2, sto_3, sto_4, sto_5, sto_6, sto_7, sto_8, sto_9, sto_10, sto_11, sto_12, sto_13, sto_14, nlo_n, nlo_i, nlo_r, nlo_0, nlo_l, and_self, or_self, Nat.reduceEqDiff, Nat.reduceLT, Nat.reduceLeDiff, Nat.one_ne_zero, Nat.zero_ne_one, v0, nI_eq, hV1.1, q1, s1]
    · rw [if_neg c5]
      have eo : ow f 3 = 0 := by unfold ow; rw [if_neg (by omega), if_neg (by omega), if_neg (by omega), if_neg c4, if_neg c5]
      exact h_tl0 hh hV hf eo (by omega) x hn (by omega) (by omega)
