/-! Both sides: count, told, tell, check. -/
variable {h : j_Hd} {M M1 M2 M3 : Nat → Nat → Int32} {o b s n : Nat} {E E' : Nat → Nat} {z : Int32} {K0 K1 K : List Int32} {T : Nat → Nat} {W : Nat → Int32} {X Y : Nat → Int32}
theorem sumI_cg {f g : Nat → Int32} : ∀ n, (∀ c, c < n → f c = g c) → sumI f n = sumI g n := by
  intro n
  induction n with
  | zero => intro _; rfl
  | succ n ih => intro he; rw [sumI, sumI, ih (fun c hc => he c (by omega)), he n (by omega)]
theorem g_count (hh : Hd h) (hi : IE M E z K0 K1 T W) (x : Int32) : Go h M 117 222 [.int x] := by
  have w0 := hh.1.1
  have f0 := hh.1.2.1
  have r7 := hh.1.2.2.2.2.2.2.2.1
  have mk := hh.2.1.1
  have th := hh.2.2.2.1.1
  have md : Md h 115 := hh.2.2.2.2.2.2.2.1
  have m0 := md.1
  have q0 := md.2.1.1
  have a1 := md.2.1.2.1
  have a2 := md.2.1.2.2.1
  have hw := hi.1.1
  have h6 := hw.1
  have h8 := hw.2.1
  have hm := hi.2.1.1
  have hs := hm.1
  have hR : RC M 115 E z K0 K1 := hi.2.2.1.1
  have sd := hi.2.2.2.1
  have e10 : ¬ nI 1 = nI 0 := by decide +kernel
  have f1 := hh.1.2.2.1
  have f2 := hh.1.2.2.2.1
  have f9 := hh.1.2.2.2.2.2.2.2.2.2.1
  obtain ⟨v0, v1, v2⟩ := id hh.2.2.2.2.1
  obtain ⟨nt, nw, _, _⟩ := id hh.2.2.1
  obtain ⟨n, hn, t1, t2, t3⟩ := hi.2.2.2.2.2.2.2.1
  have tM := hi.2.1.2.1.1
  have wM := hi.2.1.2.2.1
  obtain ⟨d1, d2, d3, d4⟩ := hm.2.2.2.2.1
  have g := hR.1.1
  have i0 : 0 < 250 := by omega
  have i1 : 1 < 250 := by omega
  have i2 : 2 < 250 := by omega
  have i3 : 3 < 250 := by omega
  have i4 : 4 < 250 := by omega
  have i5 : 5 < 250 := by omega
  have i6 : 6 < 250 := by omega
  have i7 : 7 < 250 := by omega
  have g0 := g 0 (by omega) (by omega)
  have g1 := g 1 (by omega) (by omega)
  have g2 := g 2 (by omega) (by omega)
  have g3 := g 3 (by omega) (by omega)
  have g4 := g 4 (by omega) (by omega)
  have g6 := g 6 (by omega) (by omega)
  have g7 := g 7 (by omega) (by omega)
  have gz : M (115 + 1) 5 = z := hR.1.2
  by_cases hx : ∃ j, 0 ≤ j ∧ j ≤ 10 ∧ x = nI j
  · obtain ⟨j, _, hj, rfl⟩ := hx
    refine go_q hi ?_
    intro e he
    obtain ⟨e, rfl⟩ : ∃ d, e = d + 1 := ⟨e - 1, by omega⟩
    have k6 := c6e (M := M) mk (e := e) (by omega)
    rw [hs.1] at k6
    have k7 := c7e (M := M) mk (e := e) (by omega)
    rw [hs.2.2.2.2.2.1] at k7
    have hc : j = 0 ∨ j = 1 ∨ j = 2 ∨ j = 3 ∨ j = 4 ∨ j = 5 ∨ j = 6 ∨ j = 7 ∨ j = 8 ∨ j = 9 ∨ j = 10 := by omega
    rcases hc with c | c | c | c | c | c | c | c | c | c | c <;> subst c
    · refine ⟨nI (E 0), M, M, ?_, cq_r, sd, ?_, rg_r, hR⟩
      · (rw [j_C_eq]; simp (disch := omega) only [st_117_0, st_117_1, st_117_60, st_117_61, st_117_64, st_117_67, st_117_68, st_117_69, st_117_72, st_117_75, st_117_76, st_117_77, st_117_80, st_117_83, st_117_84, st_117_85, st_117_88, st_117_91, st_117_92, st_117_93, st_117_96, st_117_99, st_117_100, st_117_101, st_117_104, st_117_107, st_117_110, st_117_111, st_117_112, st_117_115, st_117_118, st_117_119, st_117_120, st_117_123, st_117_126, st_117_127, st_117_128, st_117_131, st_117_134, st_117_135, st_117_136, st_117_139, st_117_142, st_117_145, st_117_146, st_117_147, st_117_150, st_117_153, st_117_154, st_117_155, st_117_156, st_117_159, ini_117, fs_cl, fs_len, fs_rf, fs_M, fs_put, fs_cpy, ↓reduceIte, rv_ref, true_or, or_true, true_and, and_true, nI_ltI, ix_nI, nI_clamp, ps_i, ps_n, Option.bind_some, sm_0, sm_1, sm_2, sm_3, sm_4, sto_0, sto_1, sto_2, sto_3, sto_4, sto_5, sto_6, sto_7, sto_8, sto_9, sto_10, sto_11, sto_12, sto_13, sto_14, nlo_n, nlo_i, nlo_r, nlo_0, nlo_l, and_self, or_self, Nat.reduceEqDiff, Nat.reduceLT, Nat.reduceLeDiff, Nat.one_ne_zero, Nat.zero_ne_one, w0, f0, r7, m0, q0, a1, a2, e10, mk.1, nI_eq, k6])
      · (rw [j_C_eq]; simp (disch := omega) only [st_222_0, st_222_1, st_222_2, st_222_3, st_222_60, st_222_61, st_222_64, st_222_65, st_222_66, st_222_67, st_222_68, st_222_70, st_222_71, st_222_74, st_222_75, st_222_76, st_222_79, st_222_80, st_222_81, st_222_82, st_222_83, st_222_86, st_222_87, st_222_88, st_222_91, st_222_94, st_222_95, st_222_96, st_222_97, st_222_100, st_222_101, st_222_102, st_222_105, st_222_107, st_222_108, st_222_109, st_222_110, st_222_113, st_222_115, st_222_116, st_222_117, st_222_118, st_222_121, st_222_122, st_222_123, st_222_126, st_222_127, st_222_128, st_222_129, st_222_130, st_222_131, st_222_134, ini_222, fs_cl, fs_len, fs_rf, fs_M, fs_put, fs_cpy, ↓reduceIte, rv_ref, true_or, or_true, true_and, and_true, nI_ltI, ix_nI, nI_clamp, ps_i, ps_n, Option.bind_some, sm_0, sm_1, sm_2, sm_3, sm_4, sto_0, sto_1, sto_2, sto_3, sto_4, sto_5, sto_6, sto_7, sto_8, sto_9, sto_10, sto_11, sto_12, sto_13, sto_14, nlo_n, nlo_i, nlo_r, nlo_0, nlo_l, and_self, or_self, Nat.reduceEqDiff, Nat.reduceLT, Nat.reduceLeDiff, Nat.one_ne_zero, Nat.zero_ne_one, w0, f0, r7, m0, q0, a1, a2, e10, nI_eq, i0, g0])
    · refine ⟨nI (E 1), M, M, ?_, cq_r, sd, ?_, rg_r, hR⟩
      · (rw [j_C_eq]; simp (disch := omega) only [st_117_0, st_117_1, st_117_60, st_117_61, st_117_64, st_117_67, st_117_68, st_117_69, st_117_72, st_117_75, st_117_76, st_117_77, st_117_80, st_117_83, st_117_84, st_117_85, st_117_88, st_117_91, st_117_92, st_117_93, st_117_96, st_117_99, st_117_100, st_117_101, st_117_104, st_117_107, st_117_110, st_117_111, st_117_112, st_117_115, st_117_118, st_117_119, st_117_120, st_117_123, st_117_126, st_117_127, st_117_128, st_117_131, st_117_134, st_117_135, st_117_136, st_117_139, st_117_142, st_117_145, st_117_146, st_117_147, st_117_150, st_117_153, st_117_154, st_117_155, st_117_156, st_117_159, ini_117, fs_cl, fs_len, fs_rf, fs_M, fs_put, fs_cpy, ↓reduceIte, rv_ref, true_or, or_true, true_and, and_true, nI_ltI, ix_nI, nI_clamp, ps_i, ps_n, Option.bind_some, sm_0, sm_1, sm_2, sm_3, sm_4, sto_0, sto_1, sto_2, sto_3, sto_4, sto_5, sto_6, sto_7, sto_8, sto_9, sto_10, sto_11, sto_12, sto_13, sto_14, nlo_n, nlo_i, nlo_r, nlo_0, nlo_l, and_self, or_self, Nat.reduceEqDiff, Nat.reduceLT, Nat.reduceLeDiff, Nat.one_ne_zero, Nat.zero_ne_one, w0, f0, r7, m0, q0, a1, a2, e10, mk.1, nI_eq, k7])
      · (rw [j_C_eq]; simp (disch := omega) only [st_222_0, st_222_1, st_222_2, st_222_3, st_222_60, st_222_61, st_222_64, st_222_65, st_222_66, st_222_67, st_222_68, st_222_70, st_222_71, st_222_74, st_222_75, st_222_76, st_222_79, st_222_80, st_222_81, st_222_82, st_222_83, st_222_86, st_222_87, st_222_88, st_222_91, st_222_94, st_222_95, st_222_96, st_222_97, st_222_100, st_222_101, st_222_102, st_222_105, st_222_107, st_222_108, st_222_109, st_222_110, st_222_113, st_222_115, st_222_116, st_222_117, st_222_118, st_222_121, st_222_122, st_222_123, st_222_126, st_222_127, st_222_128, st_222_129, st_222_130, st_222_131, st_222_134, ini_222, fs_cl, fs_len, fs_rf, fs_M, fs_put, fs_cpy, ↓reduceIte, rv_ref, true_or, or_true, true_and, and_true, nI_ltI, ix_nI, nI_clamp, ps_i, ps_n, Option.bind_some, sm_0, sm_1, sm_2, sm_3, sm_4, sto_0, sto_1, sto_2, sto_3, sto_4, sto_5, sto_6, sto_7, sto_8, sto_9, sto_10, sto_11, sto_12, sto_13, sto_14, nlo_n, nlo_i, nlo_r, nlo_0, nlo_l, and_self, or_self, Nat.reduceEqDiff, Nat.reduceLT, Nat.reduceLeDiff, Nat.one_ne_zero, Nat.zero_ne_one, w0, f0, r7, m0, q0, a1, a2, e10, nI_eq, i1, g1])
    · refine ⟨nI (E 2), M, M, ?_, cq_r, sd, ?_, rg_r, hR⟩
      · (rw [j_C_eq]; simp (disch := omega) only [st_117_0, st_117_1, st_117_60, st_117_61, st_117_64, st_117_67, st_117_68, st_117_69, st_117_72, st_117_75, st_117_76, st_117_77, st_117_80, st_117_83, st_117_84, st_117_85, st_117_88, st_117_91, st_117_92, st_117_93, st_117_96, st_117_99, st_117_100, st_117_101, st_117_104, st_117_107, st_117_110, st_117_111, st_117_112, st_117_115, st_117_118, st_117_119, st_117_120, st_117_123, st_117_126, st_117_127, st_117_128, st_117_131, st_117_134, st_117_135, st_117_136, st_117_139, st_117_142, st_117_145, st_117_146, st_117_147, st_117_150, st_117_153, st_117_154, st_117_155, st_117_156, st_117_159, ini_117, fs_cl, fs_len, fs_rf, fs_M, fs_put, fs_cpy, ↓reduceIte, rv_ref, true_or, or_true, true_and, and_true, nI_ltI, ix_nI, nI_clamp, ps_i, ps_n, Option.bind_some, sm_0, sm_1, sm_2, sm_3, sm_4, sto_0, sto_1, sto_2, sto_3, sto_4, sto_5, sto_6, sto_7, sto_8, sto_9, sto_10, sto_11, sto_12, sto_13, sto_14, nlo_n, nlo_i, nlo_r, nlo_0, nlo_l, and_self, or_self, Nat.reduceEqDiff, Nat.reduceLT, Nat.reduceLeDiff, Nat.one_ne_zero, Nat.zero_ne_one, w0, f0, r7, m0, q0, a1, a2, e10, mk.1, nI_eq, d1])
      · (rw [j_C_eq]; simp (disch := omega) only [st_222_0, st_222_1, st_222_2, st_222_3, st_222_60, st_222_61, st_222_64, st_222_65, st_222_66, st_222_67, st_222_68, st_222_70, st_222_71, st_222_74, st_222_75, st_222_76, st_222_79, st_222_80, st_222_81, st_222_82, st_222_83, st_222_86, st_222_87, st_222_88, st_222_91, st_222_94, st_222_95, st_222_96, st_222_97, st_222_100, st_222_101, st_222_102, st_222_105, st_222_107, st_222_108, st_222_109, st_222_110, st_222_113, st_222_115, st_222_116, st_222_117, st_222_118, st_222_121, st_222_122, st_222_123, st_222_126, st_222_127, st_222_128, st_222_129, st_222_130, st_222_131, st_222_134, ini_222, fs_cl, fs_len, fs_rf, fs_M, fs_put, fs_cpy, ↓reduceIte, rv_ref, true_or, or_true, true_and, and_true, nI_ltI, ix_nI, nI_clamp, ps_i, ps_n, Option.bind_some, sm_0, sm_1, sm_2, sm_3, sm_4, sto_0, sto_1, sto_2, sto_3, sto_4, sto_5, sto_6, sto_7, sto_8, sto_9, sto_10, sto_11, sto_12, sto_13, sto_14, nlo_n, nlo_i, nlo_r, nlo_0, nlo_l, and_self, or_self, Nat.reduceEqDiff, Nat.reduceLT, Nat.reduceLeDiff, Nat.one_ne_zero, Nat.zero_ne_one, w0, f0, r7, m0, q0, a1, a2, e10, nI_eq, i2, g2])
    · refine ⟨nI (E 3), M, M, ?_, cq_r, sd, ?_, rg_r, hR⟩
      · (rw [j_C_eq]; simp (disch := omega) only [st_117_0, st_117_1, st_117_60, st_117_61, st_117_64, st_117_67, st_117_68, st_117_69, st_117_72, st_117_75, st_117_76, st_117_77, st_117_80, st_117_83, st_117_84, st_117_85, st_117_88, st_117_91, st_117_92, st_117_93, st_117_96, st_117_99, st_117_100, st_117_101, st_117_104, st_117_107, st_117_110, st_117_111, st_117_112, st_117_115, st_117_118, st_117_119, st_117_120, st_117_123, st_117_126, st_117_127, st_117_128, st_117_131, st_117_134, st_117_135, st_117_136, st_117_139, st_117_142, st_117_145, st_117_146, st_117_147, st_117_150, st_117_153, st_117_154, st_117_155, st_117_156, st_117_159, ini_117, fs_cl, fs_len, fs_rf, fs_M, fs_put, fs_cpy, ↓reduceIte, rv_ref, true_or, or_true, true_and, and_true, nI_ltI, ix_nI, nI_clamp, ps_i, ps_n, Option.bind_some, sm_0, sm_1, sm_2, sm_3, sm_4, sto_0, sto_1, sto_2, sto_3, sto_4, sto_5, sto_6, sto_7, sto_8, sto_9, sto_10, sto_11, sto_12, sto_13, sto_14, nlo_n, nlo_i, nlo_r, nlo_0, nlo_l, and_self, or_self, Nat.reduceEqDiff, Nat.reduceLT, Nat.reduceLeDiff, Nat.one_ne_zero, Nat.zero_ne_one, w0, f0, r7, m0, q0, a1, a2, e10, mk.1, nI_eq, d3])
      · (rw [j_C_eq]; simp (disch := omega) only [st_222_0, st_222_1, st_222_2, st_222_3, st_222_60, st_222_61, st_222_64, st_222_65, st_222_66, st_222_67, st_222_68, st_222_70, st_222_71, st_222_74, st_222_75, st_222_76, st_222_79, st_222_80, st_222_81, st_222_82, st_222_83, st_222_86, st_222_87, st_222_88, st_222_91, st_222_94, st_222_95, st_222_96, st_222_97, st_222_100, st_222_101, st_222_102, st_222_105, st_222_107, st_222_108, st_222_109, st_222_110, st_222_113, st_222_115, st_222_116, st_222_117, st_222_118, st_222_121, st_222_122, st_222_123, st_222_126, st_222_127, st_222_128, st_222_129, st_222_130, st_222_131, st_222_134, ini_222, fs_cl, fs_len, fs_rf, fs_M, fs_put, fs_cpy, ↓reduceIte, rv_ref, true_or, or_true, true_and, and_true, nI_ltI, ix_nI, nI_clamp, ps_i, ps_n, Option.bind_some, sm_0, sm_1, sm_2, sm_3, sm_4, sto_0, sto_1, sto_2, sto_3, sto_4, sto_5, sto_6, sto_7, sto_8, sto_9, sto_10, sto_11, sto_12, sto_13, sto_14, nlo_n, nlo_i, nlo_r, nlo_0, nlo_l, and_self, or_self, Nat.reduceEqDiff, Nat.reduceLT, Nat.reduceLeDiff, Nat.one_ne_zero, Nat.zero_ne_one, w0, f0, r7, m0, q0, a1, a2, e10, nI_eq, i3, g3])
    · refine ⟨nI (E 4), M, M, ?_, cq_r, sd, ?_, rg_r, hR⟩
      · (rw [j_C_eq]; simp (disch := omega) only [st_117_0, st_117_1, st_117_60, st_117_61, st_117_64, st_117_67, st_117_68, st_117_69, st_117_72, st_117_75, st_117_76, st_117_77, st_117_80, st_117_83, st_117_84, st_117_85, st_117_88, st_117_91, st_117_92, st_117_93, st_117_96, st_117_99, st_117_100, st_117_101, st_117_104, st_117_107, st_117_110, st_117_111, st_117_112, st_117_115, st_117_118, st_117_119, st_117_120, st_117_123, st_117_126, st_117_127, st_117_128, st_117_131, st_117_134, st_117_135, st_117_136, st_117_139, st_117_142, st_117_145, st_117_146, st_117_147, st_117_150, st_117_153, st_117_154, st_117_155, st_117_156, st_117_159, ini_117, fs_cl, fs_len, fs_rf, fs_M, fs_put, fs_cpy, ↓reduceIte, rv_ref, true_or, or_true, true_and, and_true, nI_ltI, ix_nI, nI_clamp, ps_i, ps_n, Option.bind_some, sm_0, sm_1, sm_2, sm_3, sm_4, sto_0, sto_1, sto_2, sto_3, sto_4, sto_5, sto_6, sto_7, sto_8, sto_9, sto_10, sto_11, sto_12, sto_13, sto_14, nlo_n, nlo_i, nlo_r, nlo_0, nlo_l, and_self, or_self, Nat.reduceEqDiff, Nat.reduceLT, Nat.reduceLeDiff, Nat.one_ne_zero, Nat.zero_ne_one, w0, f0, r7, m0, q0, a1, a2, e10, mk.1, nI_eq, d2])
      · (rw [j_C_eq]; simp (disch := omega) only [st_222_0, st_222_1, st_222_2, st_222_3, st_222_60, st_222_61, st_222_64, st_222_65, st_222_66, st_222_67, st_222_68, st_222_70, st_222_71, st_222_74, st_222_75, st_222_76, st_222_79, st_222_80, st_222_81, st_222_82, st_222_83, st_222_86, st_222_87, st_222_88, st_222_91, st_222_94, st_222_95, st_222_96, st_222_97, st_222_100, st_222_101, st_222_102, st_222_105, st_222_107, st_222_108, st_222_109, st_222_110, st_222_113, st_222_115, st_222_116, st_222_117, st_222_118, st_222_121, st_222_122, st_222_123, st_222_126, st_222_127, st_222_128, st_222_129, st_222_130, st_222_131, st_222_134, ini_222, fs_cl, fs_len, fs_rf, fs_M, fs_put, fs_cpy, ↓reduceIte, rv_ref, true_or, or_true, true_and, and_true, nI_ltI, ix_nI, nI_clamp, ps_i, ps_n, Option.bind_some, sm_0, sm_1, sm_2, sm_3, sm_4, sto_0, sto_1, sto_2, sto_3, sto_4, sto_5, sto_6, sto_7, sto_8, sto_9, sto_10, sto_11, sto_12, sto_13, sto_14, nlo_n, nlo_i, nlo_r, nlo_0, nlo_l, and_self, or_self, Nat.reduceEqDiff, Nat.reduceLT, Nat.reduceLeDiff, Nat.one_ne_zero, Nat.zero_ne_one, w0, f0, r7, m0, q0, a1, a2, e10, nI_eq, i4, g4])
    · have x5 := mk.2.2.2.2.2.2.1.1
      have y5 := mk.2.2.2.2.2.2.1.2
      have p := n40e (M := M) y5 h8 hs.2.2.2.2.2.1 (e := e) (by omega)
      rw [sumI_cg (g := fun c => nI (E (38 + 5 * c))) (E 1) (fun c hc => (hm.2.2.1 c hc).1)] at p
      have L : ∀ r c, r + c = E 1 → j_X e 222 69 [some (.ref 115), some (.int (nI 5)), some (.int (sumI (fun c => nI (E (38 + 5 * c))) c)), some (.int (nI c))] [] (FS h M) = some (some (.int (sumI (fun c => nI (E (38 + 5 * c))) (E 1))), FS h M) := by
        intro r
        induction r with
        | zero =>
          intro c hr
          have ec : c = E 1 := by omega
          have e1 : ¬ E 1 < E 1 := by omega
          subst ec
          rw [st_222_69]
          simp (disch := omega) only [st_222_70, st_222_71, st_222_74, st_222_75, st_222_76, st_222_79, st_222_80, st_222_81, st_222_82, st_222_83, st_222_86, st_222_87, st_222_88, st_222_91, st_222_94, st_222_95, ini_222, fs_cl, fs_len, fs_rf, fs_M, fs_put, fs_cpy, ↓reduceIte, rv_ref, true_or, or_true, true_and, and_true, nI_ltI, ix_nI, nI_clamp, ps_i, ps_n, Option.bind_some, sm_0, sm_1, sm_2, sm_3, sm_4, sto_0, sto_1, sto_2, sto_3, sto_4, sto_5, sto_6, sto_7, sto_8, sto_9, sto_10, sto_11, sto_12, sto_13, sto_14, nlo_n, nlo_i, nlo_r, nlo_0, nlo_l, and_self, or_self, Nat.reduceEqDiff, Nat.reduceLT, Nat.reduceLeDiff, Nat.one_ne_zero, Nat.zero_ne_one, m0, q0, a1, a2, i1, g1, e1]
        | succ r ih =>
          intro c hr
          have e1 : c < E 1 := by omega
          have gv := r148e (M := M) md (t := c) (k := 0) (by omega) (e := e) (by omega)
          rw [show 38 + 5 * c + 0 = 38 + 5 * c by omega, g _ (by omega) (by omega)] at gv
          have hX := ih (c + 1) (by omega)
          rw [sumI] at hX
          rw [st_222_69]
          simp (disch := omega) only [st_222_70, st_222_71, st_222_74, st_222_75, st_222_76, st_222_79, st_222_80, st_222_81, st_222_82, st_222_83, st_222_86, st_222_87, st_222_88, st_222_91, st_222_94, st_222_95, ini_222, fs_cl, fs_len, fs_rf, fs_M, fs_put, fs_cpy, ↓reduceIte, rv_ref, true_or, or_true, true_and, and_true, nI_ltI, ix_nI, nI_clamp, ps_i, ps_n, Option.bind_some, sm_0, sm_1, sm_2, sm_3, sm_4, sto_0, sto_1, sto_2, sto_3, sto_4, sto_5, sto_6, sto_7, sto_8, sto_9, sto_10, sto_11, sto_12, sto_13, sto_14, nlo_n, nlo_i, nlo_r, nlo_0, nlo_l, and_self, or_self, Nat.reduceEqDiff, Nat.reduceLT, Nat.reduceLeDiff, Nat.one_ne_zero, Nat.zero_ne_one, m0, q0, a1, a2, i1, g1, e1, gv]
          rw [nI_add]
          exact hX
      refine ⟨sumI (fun c => nI (E (38 + 5 * c))) (E 1), M, M, ?_, cq_r, sd, ?_, rg_r, hR⟩
      · (rw [j_C_eq]; simp (disch := omega) only [st_117_0, st_117_1, st_117_60, st_117_61, st_117_64, st_117_67, st_117_68, st_117_69, st_117_72, st_117_75, st_117_76, st_117_77, st_117_80, st_117_83, st_117_84, st_117_85, st_117_88, st_117_91, st_117_92, st_117_93, st_117_96, st_117_99, st_117_100, st_117_101, st_117_104, st_117_107, st_117_110, st_117_111, st_117_112, st_117_115, st_117_118, st_117_119, st_117_120, st_117_123, st_117_126, st_117_127, st_117_128, st_117_131, st_117_134, st_117_135, st_117_136, st_117_139, st_117_142, st_117_145, st_117_146, st_117_147, st_117_150, st_117_153, st_117_154, st_117_155, st_117_156, st_117_159, ini_117, fs_cl, fs_len, fs_rf, fs_M, fs_put, fs_cpy, ↓reduceIte, rv_ref, true_or, or_true, true_and, and_true, nI_ltI, ix_nI, nI_clamp, ps_i, ps_n, Option.bind_some, sm_0, sm_1, sm_2, sm_3, sm_4, sto_0, sto_1, sto_2, sto_3, sto_4, sto_5, sto_6, sto_7, sto_8, sto_9, sto_10, sto_11, sto_12, sto_13, sto_14, nlo_n, nlo_i, nlo_r, nlo_0, nlo_l, and_self, or_self, Nat.reduceEqDiff, Nat.reduceLT, Nat.reduceLeDiff, Nat.one_ne_zero, Nat.zero_ne_one, w0, f0, r7, m0, q0, a1, a2, e10, mk.1, nI_eq, x5, y5.1, p])
      · have hX := L (E 1) 0 (by omega)
        rw [j_C_eq]
        simp (disch := omega) only [st_222_0, st_222_1, st_222_2, st_222_3, st_222_60, st_222_61, st_222_64, st_222_65, st_222_66, st_222_67, st_222_68, st_222_70, st_222_71, st_222_74, st_222_75, st_222_76, st_222_79, st_222_80, st_222_81, st_222_82, st_222_83, st_222_86, st_222_87, st_222_88, st_222_91, st_222_94, st_222_95, st_222_96, st_222_97, st_222_100, st_222_101, st_222_102, st_222_105, st_222_107, st_222_108, st_222_109, st_222_110, st_222_113, st_222_115, st_222_116, st_222_117, st_222_118, st_222_121, st_222_122, st_222_123, st_222_126, st_222_127, st_222_128, st_222_129, st_222_130, st_222_131, st_222_134, ini_222, fs_cl, fs_len, fs_rf, fs_M, fs_put, fs_cpy, ↓reduceIte, rv_ref, true_or, or_true, true_and, and_true, nI_ltI, ix_nI, nI_clamp, ps_i, ps_n, Option.bind_some, sm_0, sm_1, sm_2, sm_3, sm_4, sto_0, sto_1, sto_2, sto_3, sto_4, sto_5, sto_6, sto_7, sto_8, sto_9, sto_10, sto_11, sto_12, sto_13, sto_14, nlo_n, nlo_i, nlo_r, nlo_0, nlo_l, and_self, or_self, Nat.reduceEqDiff, Nat.reduceLT, Nat.reduceLeDiff, Nat.one_ne_zero, Nat.zero_ne_one, nI_eq]
        exact hX
    · have p := c14e mk hm hw (e := e) (by omega)
      have q := r167e md hR.1 hw (e := e) (by omega)
      refine ⟨nI (smS E (E 1)), M, M, ?_, cq_r, sd, ?_, rg_r, hR⟩
      · (rw [j_C_eq]; simp (disch := omega) only [st_117_0, st_117_1, st_117_60, st_117_61, st_117_64, st_117_67, st_117_68, st_117_69, st_117_72, st_117_75, st_117_76, st_117_77, st_117_80, st_117_83, st_117_84, st_117_85, st_117_88, st_117_91, st_117_92, st_117_93, st_117_96, st_117_99, st_117_100, st_117_101, st_117_104, st_117_107, st_117_110, st_117_111, st_117_112, st_117_115, st_117_118, st_117_119, st_117_120, st_117_123, st_117_126, st_117_127, st_117_128, st_117_131, st_117_134, st_117_135, st_117_136, st_117_139, st_117_142, st_117_145, st_117_146, st_117_147, st_117_150, st_117_153, st_117_154, st_117_155, st_117_156, st_117_159, ini_117, fs_cl, fs_len, fs_rf, fs_M, fs_put, fs_cpy, ↓reduceIte, rv_ref, true_or, or_true, true_and, and_true, nI_ltI, ix_nI, nI_clamp, ps_i, ps_n, Option.bind_some, sm_0, sm_1, sm_2, sm_3, sm_4, sto_0, sto_1, sto_2, sto_3, sto_4, sto_5, sto_6, sto_7, sto_8, sto_9, sto_10, sto_11, sto_12, sto_13, sto_14, nlo_n, nlo_i, nlo_r, nlo_0, nlo_l, and_self, or_self, Nat.reduceEqDiff, Nat.reduceLT, Nat.reduceLeDiff, Nat.one_ne_zero, Nat.zero_ne_one, w0, f0, r7, m0, q0, a1, a2, e10, mk.1, nI_eq, p])
      · (rw [j_C_eq]; simp (disch := omega) only [st_222_0, st_222_1, st_222_2, st_222_3, st_222_60, st_222_61, st_222_64, st_222_65, st_222_66, st_222_67, st_222_68, st_222_70, st_222_71, st_222_74, st_222_75, st_222_76, st_222_79, st_222_80, st_222_81, st_222_82, st_222_83, st_222_86, st_222_87, st_222_88, st_222_91, st_222_94, st_222_95, st_222_96, st_222_97, st_222_100, st_222_101, st_222_102, st_222_105, st_222_107, st_222_108, st_222_109, st_222_110, st_222_113, st_222_115, st_222_116, st_222_117, st_222_118, st_222_121, st_222_122, st_222_123, st_222_126, st_222_127, st_222_128, st_222_129, st_222_130, st_222_131, st_222_134, ini_222, fs_cl, fs_len, fs_rf, fs_M, fs_put, fs_cpy, ↓reduceIte, rv_ref, true_or, or_true, true_and, and_true, nI_ltI, ix_nI, nI_clamp, ps_i, ps_n, Option.bind_some, sm_0, sm_1, sm_2, sm_3, sm_4, sto_0, sto_1, sto_2, sto_3, sto_4, sto_5, sto_6, sto_7, sto_8, sto_9, sto_10, sto_11, sto_12, sto_13, sto_14, nlo_n, nlo_i, nlo_r, nlo_0, nlo_l, and_self, or_self, Nat.reduceEqDiff, Nat.reduceLT, Nat.reduceLeDiff, Nat.one_ne_zero, Nat.zero_ne_one, w0, f0, r7, m0, q0, a1, a2, e10, nI_eq, q])
    · have p := n32e (M := M) nt.1 (e := e) (by omega)
      rw [tM] at p
      refine ⟨nI (E 6), M, M, ?_, cq_r, sd, ?_, rg_r, hR⟩
      · (rw [j_C_eq]; simp (disch := omega) only [st_117_0, st_117_1, st_117_60, st_117_61, st_117_64, st_117_67, st_117_68, st_117_69, st_117_72, st_117_75, st_117_76, st_117_77, st_117_80, st_117_83, st_117_84, st_117_85, st_117_88, st_117_91, st_117_92, st_117_93, st_117_96, st_117_99, st_117_100, st_117_101, st_117_104, st_117_107, st_117_110, st_117_111, st_117_112, st_117_115, st_117_118, st_117_119, st_117_120, st_117_123, st_117_126, st_117_127, st_117_128, st_117_131, st_117_134, st_117_135, st_117_136, st_117_139, st_117_142, st_117_145, st_117_146, st_117_147, st_117_150, st_117_153, st_117_154, st_117_155, st_117_156, st_117_159, ini_117, fs_cl, fs_len, fs_rf, fs_M, fs_put, fs_cpy, ↓reduceIte, rv_ref, true_or, or_true, true_and, and_true, nI_ltI, ix_nI, nI_clamp, ps_i, ps_n, Option.bind_some, sm_0, sm_1, sm_2, sm_3, sm_4, sto_0, sto_1, sto_2, sto_3, sto_4, sto_5, sto_6, sto_7, sto_8, sto_9, sto_10, sto_11, sto_12, sto_13, sto_14, nlo_n, nlo_i, nlo_r, nlo_0, nlo_l, and_self, or_self, Nat.reduceEqDiff, Nat.reduceLT, Nat.reduceLeDiff, Nat.one_ne_zero, Nat.zero_ne_one, w0, f0, r7, m0, q0, a1, a2, e10, f1, nt.1, nI_eq, p])
      · (rw [j_C_eq]; simp (disch := omega) only [st_222_0, st_222_1, st_222_2, st_222_3, st_222_60, st_222_61, st_222_64, st_222_65, st_222_66, st_222_67, st_222_68, st_222_70, st_222_71, st_222_74, st_222_75, st_222_76, st_222_79, st_222_80, st_222_81, st_222_82, st_222_83, st_222_86, st_222_87, st_222_88, st_222_91, st_222_94, st_222_95, st_222_96, st_222_97, st_222_100, st_222_101, st_222_102, st_222_105, st_222_107, st_222_108, st_222_109, st_222_110, st_222_113, st_222_115, st_222_116, st_222_117, st_222_118, st_222_121, st_222_122, st_222_123, st_222_126, st_222_127, st_222_128, st_222_129, st_222_130, st_222_131, st_222_134, ini_222, fs_cl, fs_len, fs_rf, fs_M, fs_put, fs_cpy, ↓reduceIte, rv_ref, true_or, or_true, true_and, and_true, nI_ltI, ix_nI, nI_clamp, ps_i, ps_n, Option.bind_some, sm_0, sm_1, sm_2, sm_3, sm_4, sto_0, sto_1, sto_2, sto_3, sto_4, sto_5, sto_6, sto_7, sto_8, sto_9, sto_10, sto_11, sto_12, sto_13, sto_14, nlo_n, nlo_i, nlo_r, nlo_0, nlo_l, and_self, or_self, Nat.reduceEqDiff, Nat.reduceLT, Nat.reduceLeDiff, Nat.one_ne_zero, Nat.zero_ne_one, w0, f0, r7, m0, q0, a1, a2, e10, nI_eq, i6, g6])
    · have p := n32e (M := M) nw.1 (e := e) (by omega)
      rw [wM] at p
      refine ⟨nI (E 7), M, M, ?_, cq_r, sd, ?_, rg_r, hR⟩
      · (rw [j_C_eq]; simp (disch := omega) only [st_117_0, st_117_1, st_117_60, st_117_61, st_117_64, st_117_67, st_117_68, st_117_69, st_117_72, st_117_75, st_117_76, st_117_77, st_117_80, st_117_83, st_117_84, st_117_85, st_117_88, st_117_91, st_117_92, st_117_93, st_117_96, st_117_99, st_117_100, st_117_101, st_117_104, st_117_107, st_117_110, st_117_111, st_117_112, st_117_115, st_117_118, st_117_119, st_117_120, st_117_123, st_117_126, st_117_127, st_117_128, st_117_131, st_117_134, st_117_135, st_117_136, st_117_139, st_117_142, st_117_145, st_117_146, st_117_147, st_117_150, st_117_153, st_117_154, st_117_155, st_117_156, st_117_159, ini_117, fs_cl, fs_len, fs_rf, fs_M, fs_put, fs_cpy, ↓reduceIte, rv_ref, true_or, or_true, true_and, and_true, nI_ltI, ix_nI, nI_clamp, ps_i, ps_n, Option.bind_some, sm_0, sm_1, sm_2, sm_3, sm_4, sto_0, sto_1, sto_2, sto_3, sto_4, sto_5, sto_6, sto_7, sto_8, sto_9, sto_10, sto_11, sto_12, sto_13, sto_14, nlo_n, nlo_i, nlo_r, nlo_0, nlo_l, and_self, or_self, Nat.reduceEqDiff, Nat.reduceLT, Nat.reduceLeDiff, Nat.one_ne_zero, Nat.zero_ne_one, w0, f0, r7, m0, q0, a1, a2, e10, f2, nw.1, nI_eq, p])
      · (rw [j_C_eq]; simp (disch := omega) only [st_222_0, st_222_1, st_222_2, st_222_3, st_222_60, st_222_61, st_222_64, st_222_65, st_222_66, st_222_67, st_222_68, st_222_70, st_222_71, st_222_74, st_222_75, st_222_76, st_222_79, st_222_80, st_222_81, st_222_82, st_222_83, st_222_86, st_222_87, st_222_88, st_222_91, st_222_94, st_222_95, st_222_96, st_222_97, st_222_100, st_222_101, st_222_102, st_222_105, st_222_107, st_222_108, st_222_109, st_222_110, st_222_113, st_222_115, st_222_116, st_222_117, st_222_118, st_222_121, st_222_122, st_222_123, st_222_126, st_222_127, st_222_128, st_222_129, st_222_130, st_222_131, st_222_134, ini_222, fs_cl, fs_len, fs_rf, fs_M, fs_put, fs_cpy, ↓reduceIte, rv_ref, true_or, or_true, true_and, and_true, nI_ltI, ix_nI, nI_clamp, ps_i, ps_n, Option.bind_some, sm_0, sm_1, sm_2, sm_3, sm_4, sto_0, sto_1, sto_2, sto_3, sto_4, sto_5, sto_6, sto_7, sto_8, sto_9, sto_10, sto_11, sto_12, sto_13, sto_14, nlo_n, nlo_i, nlo_r, nlo_0, nlo_l, and_self, or_self, Nat.reduceEqDiff, Nat.reduceLT, Nat.reduceLeDiff, Nat.one_ne_zero, Nat.zero_ne_one, w0, f0, r7, m0, q0, a1, a2, e10, nI_eq, i7, g7])
    · have p := n32e (M := M) v2.1 (e := e) (by omega)
      rw [t1] at p
      refine ⟨nI n, M, M, ?_, cq_r, sd, ?_, rg_r, hR⟩
      · (rw [j_C_eq]; simp (disch := omega) only [st_117_0, st_117_1, st_117_60, st_117_61, st_117_64, st_117_67, st_117_68, st_117_69, st_117_72, st_117_75, st_117_76, st_117_77, st_117_80, st_117_83, st_117_84, st_117_85, st_117_88, st_117_91, st_117_92, st_117_93, st_117_96, st_117_99, st_117_100, st_117_101, st_117_104, st_117_107, st_117_110, st_117_111, st_117_112, st_117_115, st_117_118, st_117_119, st_117_120, st_117_123, st_117_126, st_117_127, st_117_128, st_117_131, st_117_134, st_117_135, st_117_136, st_117_139, st_117_142, st_117_145, st_117_146, st_117_147, st_117_150, st_117_153, st_117_154, st_117_155, st_117_156, st_117_159, ini_117, fs_cl, fs_len, fs_rf, fs_M, fs_put, fs_cpy, ↓reduceIte, rv_ref, true_or, or_true, true_and, and_true, nI_ltI, ix_nI, nI_clamp, ps_i, ps_n, Option.bind_some, sm_0, sm_1, sm_2, sm_3, sm_4, sto_0, sto_1, sto_2, sto_3, sto_4, sto_5, sto_6, sto_7, sto_8, sto_9, sto_10, sto_11, sto_12, sto_13, sto_14, nlo_n, nlo_i, nlo_r, nlo_0, nlo_l, and_self, or_self, Nat.reduceEqDiff, Nat.reduceLT, Nat.reduceLeDiff, Nat.one_ne_zero, Nat.zero_ne_one, w0, f0, r7, m0, q0, a1, a2, e10, f9, v0, v1, v2.1, nI_eq, p])
      · (rw [j_C_eq]; simp (disch := omega) only [st_222_0, st_222_1, st_222_2, st_222_3, st_222_60, st_222_61, st_222_64, st_222_65, st_222_66, st_222_67, st_222_68, st_222_70, st_222_71, st_222_74, st_222_75, st_222_76, st_222_79, st_222_80, st_222_81, st_222_82, st_222_83, st_222_86, st_222_87, st_222_88, st_222_91, st_222_94, st_222_95, st_222_96, st_222_97, st_222_100, st_222_101, st_222_102, st_222_105, st_222_107, st_222_108, st_222_109, st_222_110, st_222_113, st_222_115, st_222_116, st_222_117, st_222_118, st_222_121, st_222_122, st_222_123, st_222_126, st_222_127, st_222_128, st_222_129, st_222_130, st_222_131, st_222_134, ini_222, fs_cl, fs_len, fs_rf, fs_M, fs_put, fs_cpy, ↓reduceIte, rv_ref, true_or, or_true, true_and, and_true, nI_ltI, ix_nI, nI_clamp, ps_i, ps_n, Option.bind_some, sm_0, sm_1, sm_2, sm_3, sm_4, sto_0, sto_1, sto_2, sto_3, sto_4, sto_5, sto_6, sto_7, sto_8, sto_9, sto_10, sto_11, sto_12, sto_13, sto_14, nlo_n, nlo_i, nlo_r, nlo_0, nlo_l, and_self, or_self, Nat.reduceEqDiff, Nat.reduceLT, Nat.reduceLeDiff, Nat.one_ne_zero, Nat.zero_ne_one, w0, f0, r7, m0, q0, a1, a2, e10, nI_eq, t2])
    · refine ⟨z, M, M, ?_, cq_r, sd, ?_, rg_r, hR⟩
      · (rw [j_C_eq]; simp (disch := omega) only [st_117_0, st_117_1, st_117_60, st_117_61, st_117_64, st_117_67, st_117_68, st_117_69, st_117_72, st_117_75, st_117_76, st_117_77, st_117_80, st_117_83, st_117_84, st_117_85, st_117_88, st_117_91, st_117_92, st_117_93, st_117_96, st_117_99, st_117_100, st_117_101, st_117_104, st_117_107, st_117_110, st_117_111, st_117_112, st_117_115, st_117_118, st_117_119, st_117_120, st_117_123, st_117_126, st_117_127, st_117_128, st_117_131, st_117_134, st_117_135, st_117_136, st_117_139, st_117_142, st_117_145, st_117_146, st_117_147, st_117_150, st_117_153, st_117_154, st_117_155, st_117_156, st_117_159, ini_117, fs_cl, fs_len, fs_rf, fs_M, fs_put, fs_cpy, ↓reduceIte, rv_ref, true_or, or_true, true_and, and_true, nI_ltI, ix_nI, nI_clamp, ps_i, ps_n, Option.bind_some, sm_0, sm_1, sm_2, sm_3, sm_4, sto_0, sto_1, sto_2, sto_3, sto_4, sto_5, sto_6, sto_7, sto_8, sto_9, sto_10, sto_11, sto_12, sto_13, sto_14, nlo_n, nlo_i, nlo_r, nlo_0, nlo_l, and_self, or_self, Nat.reduceEqDiff, Nat.reduceLT, Nat.reduceLeDiff, Nat.one_ne_zero, Nat.zero_ne_one, w0, f0, r7, m0, q0, a1, a2, e10, mk.1, nI_eq, d4])
      · (rw [j_C_eq]; simp (disch := omega) only [st_222_0, st_222_1, st_222_2, st_222_3, st_222_60, st_222_61, st_222_64, st_222_65, st_222_66, st_222_67, st_222_68, st_222_70, st_222_71, st_222_74, st_222_75, st_222_76, st_222_79, st_222_80, st_222_81, st_222_82, st_222_83, st_222_86, st_222_87, st_222_88, st_222_91, st_222_94, st_222_95, st_222_96, st_222_97, st_222_100, st_222_101, st_222_102, st_222_105, st_222_107, st_222_108, st_222_109, st_222_110, st_222_113, st_222_115, st_222_116, st_222_117, st_222_118, st_222_121, st_222_122, st_222_123, st_222_126, st_222_127, st_222_128, st_222_129, st_222_130, st_222_131, st_222_134, ini_222, fs_cl, fs_len, fs_rf, fs_M, fs_put, fs_cpy, ↓reduceIte, rv_ref, true_or, or_true, true_and, and_true, nI_ltI, ix_nI, nI_clamp, ps_i, ps_n, Option.bind_some, sm_0, sm_1, sm_2, sm_3, sm_4, sto_0, sto_1, sto_2, sto_3, sto_4, sto_5, sto_6, sto_7, sto_8, sto_9, sto_10, sto_11, sto_12, sto_13, sto_14, nlo_n, nlo_i, nlo_r, nlo_0, nlo_l, and_self, or_self, Nat.reduceEqDiff, Nat.reduceLT, Nat.reduceLeDiff, Nat.one_ne_zero, Nat.zero_ne_one, w0, f0, r7, m0, q0, a1, a2, e10, nI_eq, i5, gz])
  · refine go_f0 hi (k := 1) ?_
    intro e he
    obtain ⟨e, rfl⟩ : ∃ d, e = d + 1 := ⟨e - 1, by omega⟩
    have kf := c119 (M := M) hh (k := 1) (by omega) (e := e) (by omega)
    have y0 := n_ne hx (j := 0) (by omega)
    have y1 := n_ne hx (j := 1) (by omega)
    have y2 := n_ne hx (j := 2) (by omega)
    have y3 := n_ne hx (j := 3) (by omega)
    have y4 := n_ne hx (j := 4) (by omega)
    have y5 := n_ne hx (j := 5) (by omega)
    have y6 := n_ne hx (j := 6) (by omega)
    have y7 := n_ne hx (j := 7) (by omega)
    have y8 := n_ne hx (j := 8) (by omega)
    have y9 := n_ne hx (j := 9) (by omega)
    have ya := n_ne hx (j := 10) (by omega)
    refine ⟨by (rw [j_C_eq]; simp (disch := omega) only [st_117_0, st_117_1, st_117_60, st_117_61, st_117_64, st_117_67, st_117_68, st_117_69, st_117_72, st_117_75, st_117_76, st_117_77, st_117_80, st_117_83, st_117_84, st_117_85, st_117_88, st_117_91, st_117_92, st_117_93, st_117_96, st_117_99, st_117_100, st_117_101, st_117_104, st_117_107, st_117_110, st_117_111, st_117_112, st_117_115, st_117_118, st_117_119, st_117_120, st_117_123, st_117_126, st_117_127, st_117_128, st_117_131, st_117_134, st_117_135, st_117_136, st_117_139, st_117_142, st_117_145, st_117_146, st_117_147, st_117_150, st_117_153, st_117_154, st_117_155, st_117_156, st_117_159, ini_117, fs_cl, fs_len, fs_rf, fs_M, fs_put, fs_cpy, ↓reduceIte, rv_ref, true_or, or_true, true_and, and_true, nI_ltI, ix_nI, nI_clamp, ps_i, ps_n, Option.bind_some, sm_0, sm_1, sm_2, sm_3, sm_4, sto_0, sto_1, sto_2, sto_3, sto_4, sto_5, sto_6, sto_7, sto_8, sto_9, sto_10, sto_11, sto_12, sto_13, sto_14, nlo_n, nlo_i, nlo_r, nlo_0, nlo_l, and_self, or_self, Nat.reduceEqDiff, Nat.reduceLT, Nat.reduceLeDiff, Nat.one_ne_zero, Nat.zero_ne_one, w0, f0, r7, m0, q0, a1, a2, e10, y0, y1, y2, y3, y4, y5, y6, y7, y8, y9, ya, kf]), fun M' hR' => ?_⟩
    have kf := r142 (M := M') md (k := 1) (by omega) (e := e) (by omega)
    (rw [j_C_eq]; simp (disch := omega) only [st_222_0, st_222_1, st_222_2, st_222_3, st_222_60, st_222_61, st_222_64, st_222_65, st_222_66, st_222_67, st_222_68, st_222_70, st_222_71, st_222_74, st_222_75, st_222_76, st_222_79, st_222_80, st_222_81, st_222_82, st_222_83, st_222_86, st_222_87, st_222_88, st_222_91, st_222_94, st_222_95, st_222_96, st_222_97, st_222_100, st_222_101, st_222_102, st_222_105, st_222_107, st_222_108, st_222_109, st_222_110, st_222_113, st_222_115, st_222_116, st_222_117, st_222_118, st_222_121, st_222_122, st_222_123, st_222_126, st_222_127, st_222_128, st_222_129, st_222_130, st_222_131, st_222_134, ini_222, fs_cl, fs_len, fs_rf, fs_M, fs_put, fs_cpy, ↓reduceIte, rv_ref, true_or, or_true, true_and, and_true, nI_ltI, ix_nI, nI_clamp, ps_i, ps_n, Option.bind_some, sm_0, sm_1, sm_2, sm_3, sm_4, sto_0, sto_1, sto_2, sto_3, sto_4, sto_5, sto_6, sto_7, sto_8, sto_9, sto_10, sto_11, sto_12, sto_13, sto_14, nlo_n, nlo_i, nlo_r, nlo_0, nlo_l, and_self, or_self, Nat.reduceEqDiff, Nat.reduceLT, Nat.reduceLeDiff, Nat.one_ne_zero, Nat.zero_ne_one, w0, f0, r7, m0, q0, a1, a2, e10, y0, y1, y2, y3, y4, y5, y6, y7, y8, y9, ya, kf])
theorem g_told (hh : Hd h) (hi : IE M E z K0 K1 T W) (x : Int32) : Go h M 118 223 [.int x] := by
  have w0 := hh.1.1
  have f0 := hh.1.2.1
  have r7 := hh.1.2.2.2.2.2.2.2.1
  have mk := hh.2.1.1
  have th := hh.2.2.2.1.1
  have md : Md h 115 := hh.2.2.2.2.2.2.2.1
  have m0 := md.1
  have q0 := md.2.1.1
  have a1 := md.2.1.2.1
  have a2 := md.2.1.2.2.1
  have hw := hi.1.1
  have h6 := hw.1
  have h8 := hw.2.1
  have hm := hi.2.1.1
  have hs := hm.1
  have hR : RC M 115 E z K0 K1 := hi.2.2.1.1
  have sd := hi.2.2.2.1
  have e10 : ¬ nI 1 = nI 0 := by decide +kernel
  have f11 := hh.1.2.2.2.2.2.2.2.2.2.2.2
  have nb := hh.2.2.2.2.2.2.1
  have q3 := md.2.2.2.1.1
  have b3a := md.2.2.2.1.2.1
  have b3b := md.2.2.2.1.2.2.1
  by_cases hx : ∃ j, 1 ≤ j ∧ j ≤ 5 ∧ x = nI j
  · obtain ⟨j, hj1, hj, rfl⟩ := hx
    refine go_q hi ?_
    intro e he
    obtain ⟨e, rfl⟩ : ∃ d, e = d + 1 := ⟨e - 1, by omega⟩
    have kw := c122e (σ := FS h M) (nI j) (nI 1) (nI 5) (e := e) (by omega)
    rw [wi_in hj1 hj (by omega)] at kw
    have kl := r143e (σ := FS h M) (nI j).toInt64 (lN 1) (lN 5) (e := e) (by omega)
    rw [lin_in hj1 hj (by omega)] at kl
    have g := n33ie (M := M) nb (by omega : j < 6) (e := e) (by omega)
    have fe := hi.2.2.2.2.1 j hj1 (by omega)
    have j6 : j < 6 := by omega
    refine ⟨M 114 j, M, M, ?_, cq_r, sd, ?_, rg_r, hR⟩
    · (rw [j_C_eq]; simp (disch := omega) only [st_118_0, st_118_1, st_118_2, st_118_3, st_118_6, st_118_9, st_118_10, st_118_13, st_118_14, st_118_17, st_118_20, st_118_21, st_118_22, st_118_25, ini_118, fs_cl, fs_len, fs_rf, fs_M, fs_put, fs_cpy, ↓reduceIte, rv_ref, true_or, or_true, true_and, and_true, nI_ltI, ix_nI, nI_clamp, ps_i, ps_n, Option.bind_some, sm_0, sm_1, sm_2, sm_3, sm_4, sto_0, sto_1, sto_2, sto_3, sto_4, sto_5, sto_6, sto_7, sto_8, sto_9, sto_10, sto_11, sto_12, sto_13, sto_14, nlo_n, nlo_i, nlo_r, nlo_0, nlo_l, and_self, or_self, Nat.reduceEqDiff, Nat.reduceLT, Nat.reduceLeDiff, Nat.one_ne_zero, Nat.zero_ne_one, w0, f0, r7, m0, q0, a1, a2, e10, f11, nb.1, kw, g])
    · rw [fe]
      (rw [j_C_eq]; simp (disch := omega) only [st_223_0, st_223_1, st_223_2, st_223_3, st_223_6, st_223_9, st_223_12, st_223_13, st_223_16, st_223_17, st_223_18, st_223_21, st_223_22, st_223_23, st_223_26, ini_223, fs_cl, fs_len, fs_rf, fs_M, fs_put, fs_cpy, ↓reduceIte, rv_ref, true_or, or_true, true_and, and_true, nI_ltI, ix_nI, nI_clamp, ps_i, ps_n, Option.bind_some, sm_0, sm_1, sm_2, sm_3, sm_4, sto_0, sto_1, sto_2, sto_3, sto_4, sto_5, sto_6, sto_7, sto_8, sto_9, sto_10, sto_11, sto_12, sto_13, sto_14, nlo_n, nlo_i, nlo_r, nlo_0, nlo_l, and_self, or_self, Nat.reduceEqDiff, Nat.reduceLT, Nat.reduceLeDiff, Nat.one_ne_zero, Nat.zero_ne_one, w0, f0, r7, m0, q0, a1, a2, e10, q3, b3a, b3b, kl, j6])
  · refine go_f0 hi (k := 1) ?_
    intro e he
    obtain ⟨e, rfl⟩ : ∃ d, e = d + 1 := ⟨e - 1, by omega⟩
    have kw := c122e (σ := FS h M) x (nI 1) (nI 5) (e := e) (by omega)
    rw [wi_out hx (by omega) (by omega)] at kw
    have kf := c119 (M := M) hh (k := 1) (by omega) (e := e) (by omega)
    refine ⟨by (rw [j_C_eq]; simp (disch := omega) only [st_118_0, st_118_1, st_118_2, st_118_3, st_118_6, st_118_9, st_118_10, st_118_13, st_118_14, st_118_17, st_118_20, st_118_21, st_118_22, st_118_25, ini_118, fs_cl, fs_len, fs_rf, fs_M, fs_put, fs_cpy, ↓reduceIte, rv_ref, true_or, or_true, true_and, and_true, nI_ltI, ix_nI, nI_clamp, ps_i, ps_n, Option.bind_some, sm_0, sm_1, sm_2, sm_3, sm_4, sto_0, sto_1, sto_2, sto_3, sto_4, sto_5, sto_6, sto_7, sto_8, sto_9, sto_10, sto_11, sto_12, sto_13, sto_14, nlo_n, nlo_i, nlo_r, nlo_0, nlo_l, and_self, or_self, Nat.reduceEqDiff, Nat.reduceLT, Nat.reduceLeDiff, Nat.one_ne_zero, Nat.zero_ne_one, w0, f0, r7, m0, q0, a1, a2, e10, kw, kf]), fun M' hR' => ?_⟩
    have kl := r143e (σ := FS h M') x.toInt64 (lN 1) (lN 5) (e := e) (by omega)
    rw [lin_out hx (by omega) (by omega)] at kl
    have kf := r142 (M := M') md (k := 1) (by omega) (e := e) (by omega)
    (rw [j_C_eq]; simp (disch := omega) only [st_223_0, st_223_1, st_223_2, st_223_3, st_223_6, st_223_9, st_223_12, st_223_13, st_223_16, st_223_17, st_223_18, st_223_21, st_223_22, st_223_23, st_223_26, ini_223, fs_cl, fs_len, fs_rf, fs_M, fs_put, fs_cpy, ↓reduceIte, rv_ref, true_or, or_true, true_and, and_true, nI_ltI, ix_nI, nI_clamp, ps_i, ps_n, Option.bind_some, sm_0, sm_1, sm_2, sm_3, sm_4, sto_0, sto_1, sto_2, sto_3, sto_4, sto_5, sto_6, sto_7, sto_8, sto_9, sto_10, sto_11, sto_12, sto_13, sto_14, nlo_n, nlo_i, nlo_r, nlo_0, nlo_l, and_self, or_self, Nat.reduceEqDiff, Nat.reduceLT, Nat.reduceLeDiff, Nat.one_ne_zero, Nat.zero_ne_one, w0, f0, r7, m0, q0, a1, a2, e10, kl, kf])
/-- the waiting ints are new -/
theorem ie_w (hi : IE M E z K0 K1 T W) {v : Nat} {W' : Nat → Int32} (hv : v ≤ 20) (hcl : ∀ x, (33 ≤ x ∧ x < 64) ∨ (97 ≤ x ∧ x ≠ 114) ∨ x = 1 ∨ (2 ≤ x ∧ x < 27 ∧ x ≠ 22 ∧ x ≠ 23) ∨ x = 29 ∨ x = 30 → M1 x = M x) (h114 : M1 114 = M 114) (hs : Sd M1 65) (w1 : M1 31 1 = nI v) (w2 : ∀ i, i < v → M1 32 i = W' i) (hrf : ∀ x, x < 115 ∨ x = 117 ∨ x = 118 ∨ 122 ≤ x → M2 x = M1 x) (h2 : M2 115 2 = M1 115 2) (h14 : M2 115 14 = M1 115 14) (hR : RC M2 115 (upE E 7 v) z K0 K1) (r1 : ∀ k, 100 ≤ k → M2 116 k = M 116 k) (r2 : ∀ i, i < v → M2 116 (80 + i) = W' i) : IE M2 (upE E 7 v) z K0 K1 T W' := by
  have hi' := hi
  obtain ⟨a, b, c, d, e, f⟩ := hi'
  have heE : ∀ j, j ≠ 6 → j ≠ 7 → upE E 7 v j = E j := fun j _ h2 => upE_o _ h2
  refine ie_g hi (fun x hx => hcl x (by omega)) hs (fun x hx => hrf x (by omega)) h2 h14 ?_ ⟨WE_E heE a.1, by rw [upE_o _ (by omega)]; exact a.2.1, by rw [upE_o _ (by omega)]; exact a.2.2.1, by rw [upE_s]; exact hv⟩ ?_ ?_
  · intro k h1 h2
    rw [hrf 114 (by omega), hrf 118 (by omega), h114, hcl 118 (by omega)]
    exact e k h1 h2
  · refine ⟨CM_E heE (CM_cg (fun x h1 h2 h3 h4 => hcl x (by omega)) b.1), ?_, ?_, ?_⟩
    · rw [upE_o _ (by omega), hcl 29 (by omega), hcl 30 (by omega)]; exact b.2.1
    · rw [upE_s]; exact w1
    · rw [upE_s]; exact w2
  · refine ⟨hR, fun i hi' => ?_, fun i hi' => ?_⟩
    · rw [upE_o _ (by omega)] at hi'
      rw [r1 _ (by omega)]; exact c.2.1 i hi'
    · rw [upE_s] at hi'
      exact r2 i hi'
theorem g_tell (hh : Hd h) (hi : IE M E z K0 K1 T W) (x : Int32) : Go h M 115 220 [.int x] := by
  have w0 := hh.1.1
  have f0 := hh.1.2.1
  have r7 := hh.1.2.2.2.2.2.2.2.1
  have mk := hh.2.1.1
  have th := hh.2.2.2.1.1
  have md : Md h 115 := hh.2.2.2.2.2.2.2.1
  have m0 := md.1
  have q0 := md.2.1.1
  have a1 := md.2.1.2.1
  have a2 := md.2.1.2.2.1
  have hw := hi.1.1
  have h6 := hw.1
  have h8 := hw.2.1
  have hm := hi.2.1.1
  have hs := hm.1
  have hR : RC M 115 E z K0 K1 := hi.2.2.1.1
  have sd := hi.2.2.2.1
  have e10 : ¬ nI 1 = nI 0 := by decide +kernel
  have f2 := hh.1.2.2.2.1
  have nw := hh.2.2.1.2.1
  have wM := hi.2.1.2.2.1
  have E7 := hi.1.2.2.2
  have i7 : 7 < 250 := by omega
  by_cases c1 : E 7 < 20
  · intro e he
    obtain ⟨e, rfl⟩ : ∃ d, e = d + 1 := ⟨e - 1, by omega⟩
    obtain ⟨d, hd⟩ := le_ex (show 1 ≤ e by omega)
    obtain ⟨M1, p1, p2, p3, p4, p5⟩ := n36x (d := d) nw wM c1 x
    rw [← hd] at p1
    have hR1 : RC M1 115 E z K0 K1 := by
      unfold RC RLd Tx at hR ⊢
      rw [p5 (115 + 1) (by omega) (by omega)]; exact hR
    have g7 := hR1.1.1 7 (by omega) (by omega)
    have kn := n32e (M := M1) nw.1 (e := e) (by omega)
    rw [p2] at kn
    have iw : 80 + E 7 < 250 := by omega
    have n20 : ¬ E 7 = 20 := by omega
    have u7 : j_up M1 (115 + 1) (80 + E 7) x (115 + 1) 7 = nI (E 7) := by rw [up_k _ _ _ _ (by omega)]; exact g7
    have hl : ∀ k, k ≠ 7 → k ≠ 80 + E 7 → j_up (j_up M1 116 (80 + E 7) x) 116 7 (nI (E 7 + 1)) 116 k = M1 116 k := fun k h1 h2 => by
      rw [up_k _ _ _ _ h1, up_k _ _ _ _ h2]
    have f116 : ∀ y, y ≠ 116 → j_up (j_up M1 116 (80 + E 7) x) 116 7 (nI (E 7 + 1)) y = M1 y := fun y hy => by rw [up_r _ _ _ _ hy, up_r _ _ _ _ hy]
    refine ⟨nI (E 7 + 1), M1, j_up (j_up M1 116 (80 + E 7) x) 116 7 (nI (E 7 + 1)), ?_, ?_, p5 1003 (by omega) (by omega), upE E 7 (E 7 + 1), z, K0, K1, T, (fun i => if i = E 7 then x else W i), ?_⟩
    · (rw [j_C_eq]; simp (disch := omega) only [st_115_0, st_115_1, st_115_4, st_115_5, st_115_8, st_115_11, st_115_12, st_115_15, st_115_18, st_115_21, st_115_22, st_115_23, st_115_26, ini_115, fs_cl, fs_len, fs_rf, fs_M, fs_put, fs_cpy, ↓reduceIte, rv_ref, true_or, or_true, true_and, and_true, nI_ltI, ix_nI, nI_clamp, ps_i, ps_n, Option.bind_some, sm_0, sm_1, sm_2, sm_3, sm_4, sto_0, sto_1, sto_2, sto_3, sto_4, sto_5, sto_6, sto_7, sto_8, sto_9, sto_10, sto_11, sto_12, sto_13, sto_14, nlo_n, nlo_i, nlo_r, nlo_0, nlo_l, and_self, or_self, Nat.reduceEqDiff, Nat.reduceLT, Nat.reduceLeDiff, Nat.one_ne_zero, Nat.zero_ne_one, w0, f0, r7, m0, q0, a1, a2, e10, f2, nw.1, p1, kn])
    · (rw [j_C_eq]; simp (disch := omega) only [st_220_0, st_220_1, st_220_4, st_220_6, st_220_7, st_220_9, st_220_12, st_220_13, st_220_14, st_220_17, st_220_18, st_220_19, st_220_22, st_220_24, st_220_25, st_220_28, st_220_30, st_220_31, st_220_32, st_220_33, st_220_34, st_220_35, st_220_38, st_220_40, st_220_41, st_220_42, st_220_43, st_220_44, st_220_45, st_220_46, st_220_49, st_220_51, st_220_52, ini_220, fs_cl, fs_len, fs_rf, fs_M, fs_put, fs_cpy, ↓reduceIte, rv_ref, true_or, or_true, true_and, and_true, nI_ltI, ix_nI, nI_clamp, ps_i, ps_n, Option.bind_some, sm_0, sm_1, sm_2, sm_3, sm_4, sto_0, sto_1, sto_2, sto_3, sto_4, sto_5, sto_6, sto_7, sto_8, sto_9, sto_10, sto_11, sto_12, sto_13, sto_14, nlo_n, nlo_i, nlo_r, nlo_0, nlo_l, and_self, or_self, Nat.reduceEqDiff, Nat.reduceLT, Nat.reduceLeDiff, Nat.one_ne_zero, Nat.zero_ne_one, w0, f0, r7, m0, q0, a1, a2, e10, i7, g7, nI_eq, n20, nI_add, iw, u7, up_s])
    · refine ie_w hi (by omega) (fun y hy => p5 y (by omega) (by omega)) (p5 114 (by omega) (by omega)) (Sd_cg (p5 81 (by omega) (by omega)) sd) p2 (fun i hi' => ?_) (fun y hy => f116 y (by omega)) (by rw [f116 115 (by omega)]) (by rw [f116 115 (by omega)]) ?_ (fun k hk => by rw [hl k (by omega) (by omega), p5 116 (by omega) (by omega)]) (fun i hi' => ?_)
      · by_cases ei : i = E 7
        · simp only [if_pos ei]; rw [ei]; exact p3
        · simp only [if_neg ei]; rw [p4 i ei]; exact hi.2.1.2.2.2 i (by omega)
      · refine ⟨⟨fun k h1 h5 => ?_, ?_⟩, ?_, ?_⟩
        · show j_up (j_up M1 116 (80 + E 7) x) 116 7 (nI (E 7 + 1)) 116 k = _
          by_cases e7 : k = 7
          · subst e7; rw [up_s, upE_s]
          · rw [hl k e7 (by omega), upE_o _ e7]; exact hR1.1.1 k h1 h5
        · show j_up (j_up M1 116 (80 + E 7) x) 116 7 (nI (E 7 + 1)) 116 5 = z
          rw [hl 5 (by omega) (by omega)]; exact hR1.1.2
        · have hT := hR1.2.1
          unfold Tx at hT ⊢
          show (K0 = [] ∧ j_up (j_up M1 116 (80 + E 7) x) 116 7 (nI (E 7 + 1)) 116 (78 + 0) = nI 0) ∨ ∃ B n, 1 ≤ n ∧ n ≤ 50 ∧ j_up (j_up M1 116 (80 + E 7) x) 116 7 (nI (E 7 + 1)) 116 (78 + 0) = nI n ∧ (∀ i, i < n → j_up (j_up M1 116 (80 + E 7) x) 116 7 (nI (E 7 + 1)) 116 (100 + 50 * 0 + i) = nI (B i) ∧ B i < 256) ∧ txR B n 0 = (true, n, K0)
          rw [hl (78 + 0) (by omega) (by omega)]
          rcases hT with q | ⟨B, m, q1, q2, q3, q4, q5⟩
          · exact .inl q
          · exact .inr ⟨B, m, q1, q2, q3, fun i hi' => by rw [hl _ (by omega) (by omega)]; exact q4 i hi', q5⟩
        · have hT := hR1.2.2
          unfold Tx at hT ⊢
          show (K1 = [] ∧ j_up (j_up M1 116 (80 + E 7) x) 116 7 (nI (E 7 + 1)) 116 (78 + 1) = nI 0) ∨ ∃ B n, 1 ≤ n ∧ n ≤ 50 ∧ j_up (j_up M1 116 (80 + E 7) x) 116 7 (nI (E 7 + 1)) 116 (78 + 1) = nI n ∧ (∀ i, i < n → j_up (j_up M1 116 (80 + E 7) x) 116 7 (nI (E 7 + 1)) 116 (100 + 50 * 1 + i) = nI (B i) ∧ B i < 256) ∧ txR B n 1 = (true, n, K1)
          rw [hl (78 + 1) (by omega) (by omega)]
          rcases hT with q | ⟨B, m, q1, q2, q3, q4, q5⟩
          · exact .inl q
          · exact .inr ⟨B, m, q1, q2, q3, fun i hi' => by rw [hl _ (by omega) (by omega)]; exact q4 i hi', q5⟩
      · by_cases ei : i = E 7
        · simp only [if_pos ei]; rw [ei, up_k _ _ _ _ (by omega), up_s]
        · simp only [if_neg ei]
          rw [hl _ (by omega) (by omega), p5 116 (by omega) (by omega)]
          exact hi.2.2.1.2.2 i (by omega)
  · refine go_f0 hi (k := 4) ?_
    intro e he
    obtain ⟨e, rfl⟩ : ∃ d, e = d + 1 := ⟨e - 1, by omega⟩
    have e20 : E 7 = 20 := by omega
    have p := n36fe (M := M) nw wM (by omega) (by omega) x (e := e) (by omega)
    have kf := c119 (M := M) hh (k := 4) (by omega) (e := e) (by omega)
    refine ⟨by (rw [j_C_eq]; simp (disch := omega) only [st_115_0, st_115_1, st_115_4, st_115_5, st_115_8, st_115_11, st_115_12, st_115_15, st_115_18, st_115_21, st_115_22, st_115_23, st_115_26, ini_115, fs_cl, fs_len, fs_rf, fs_M, fs_put, fs_cpy, ↓reduceIte, rv_ref, true_or, or_true, true_and, and_true, nI_ltI, ix_nI, nI_clamp, ps_i, ps_n, Option.bind_some, sm_0, sm_1, sm_2, sm_3, sm_4, sto_0, sto_1, sto_2, sto_3, sto_4, sto_5, sto_6, sto_7, sto_8, sto_9, sto_10, sto_11, sto_12, sto_13, sto_14, nlo_n, nlo_i, nlo_r, nlo_0, nlo_l, and_self, or_self, Nat.reduceEqDiff, Nat.reduceLT, Nat.reduceLeDiff, Nat.one_ne_zero, Nat.zero_ne_one, w0, f0, r7, m0, q0, a1, a2, e10, f2, nw.1, p, kf]), fun M' hR' => ?_⟩
    have g7 := hR'.1.1 7 (by omega) (by omega)
    rw [e20] at g7
    have kf := r142 (M := M') md (k := 4) (by omega) (e := e) (by omega)
    (rw [j_C_eq]; simp (disch := omega) only [st_220_0, st_220_1, st_220_4, st_220_6, st_220_7, st_220_9, st_220_12, st_220_13, st_220_14, st_220_17, st_220_18, st_220_19, st_220_22, st_220_24, st_220_25, st_220_28, st_220_30, st_220_31, st_220_32, st_220_33, st_220_34, st_220_35, st_220_38, st_220_40, st_220_41, st_220_42, st_220_43, st_220_44, st_220_45, st_220_46, st_220_49, st_220_51, st_220_52, ini_220, fs_cl, fs_len, fs_rf, fs_M, fs_put, fs_cpy, ↓reduceIte, rv_ref, true_or, or_true, true_and, and_true, nI_ltI, ix_nI, nI_clamp, ps_i, ps_n, Option.bind_some, sm_0, sm_1, sm_2, sm_3, sm_4, sto_0, sto_1, sto_2, sto_3, sto_4, sto_5, sto_6, sto_7, sto_8, sto_9, sto_10, sto_11, sto_12, sto_13, sto_14, nlo_n, nlo_i, nlo_r, nlo_0, nlo_l, and_self, or_self, Nat.reduceEqDiff, Nat.reduceLT, Nat.reduceLeDiff, Nat.one_ne_zero, Nat.zero_ne_one, w0, f0, r7, m0, q0, a1, a2, e10, i7, g7, kf])
