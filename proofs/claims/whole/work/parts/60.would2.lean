/-! Both sides: rounds, home, takers, tolls, seed, fade, law. -/
variable {h : j_Hd} {M M1 M2 : Nat → Nat → Int32} {E : Nat → Nat} {z : Int32} {K0 K1 : List Int32} {T : Nat → Nat} {W : Nat → Int32}
theorem g_round (hh : Hd h) (hi : IE M E z K0 K1 T W) (x : Int32) : Go h M 100 198 [.int x] := by
  have w0 := hh.1.1
  have f0 := hh.1.2.1
  have r7 := hh.1.2.2.2.2.2.2.2.1
  have mk := hh.2.1.1
  have th := hh.2.2.2.1.1
  have md : Md h 115 := hh.2.2.2.2.2.2.2.1
  have m0 := md.1
  have q0 := md.2.1.1
  have a1 := md.2.1.2.1
  have a2 := md.2.1.2.2.1
  have hw := hi.1.1
  have h6 := hw.1
  have h8 := hw.2.1
  have hm := hi.2.1.1
  have hs := hm.1
  have hR : RC M 115 E z K0 K1 := hi.2.2.1.1
  have sd := hi.2.2.2.1
  have e10 : ¬ nI 1 = nI 0 := by decide +kernel
  by_cases hx : ∃ j, j < E 1 ∧ x = nI j
  · obtain ⟨c, hc, rfl⟩ := hx
    refine go_q hi ?_
    intro e he
    obtain ⟨e, rfl⟩ : ∃ d, e = d + 1 := ⟨e - 1, by omega⟩
    obtain ⟨M1, p1, p2, p3⟩ := c68e th mk (by omega) sd hm hw hc (e := e) (by omega)
    have hR1 := RC_cq (cq_mg p3) hR
    obtain ⟨M2, s1, s2, s3⟩ := r198 md hR1 hw hc (e := e + 1) (by omega)
    refine ⟨nI (rdS K0 c 100 0 E), M1, M2, ?_, cq_mg p3, p2, s1, s3, s2⟩
    have k9 := c9ye (M := M) mk hs h8 hc (e := e) (by omega)
    (rw [j_C_eq]; simp (disch := omega) only [st_100_0, st_100_1, st_100_4, st_100_5, st_100_8, st_100_11, st_100_12, st_100_15, st_100_16, st_100_19, st_100_20, st_100_23, st_100_26, st_100_27, st_100_28, st_100_31, ini_100, fs_cl, fs_len, fs_rf, fs_M, fs_put, fs_cpy, ↓reduceIte, rv_ref, true_or, or_true, true_and, and_true, nI_ltI, ix_nI, nI_clamp, ps_i, ps_n, Option.bind_some, sm_0, sm_1, sm_2, sm_3, sm_4, sto_0, sto_1, sto_2, sto_3, sto_4, sto_5, sto_6, sto_7, sto_8, sto_9, sto_10, sto_11, sto_12, sto_13, sto_14, nlo_n, nlo_i, nlo_r, nlo_0, nlo_l, and_self, or_self, Nat.reduceEqDiff, Nat.reduceLT, Nat.reduceLeDiff, Nat.one_ne_zero, Nat.zero_ne_one, w0, f0, r7, m0, q0, a1, a2, e10, mk.1, th.1, k9, p1])
  · refine go_f0 hi (k := 1) ?_
    intro e he
    obtain ⟨e, rfl⟩ : ∃ d, e = d + 1 := ⟨e - 1, by omega⟩
    have k9 := c9ne (M := M) mk hs h8 hx (e := e) (by omega)
    have kf := c119 (M := M) hh (k := 1) (by omega) (e := e) (by omega)
    refine ⟨by (rw [j_C_eq]; simp (disch := omega) only [st_100_0, st_100_1, st_100_4, st_100_5, st_100_8, st_100_11, st_100_12, st_100_15, st_100_16, st_100_19, st_100_20, st_100_23, st_100_26, st_100_27, st_100_28, st_100_31, ini_100, fs_cl, fs_len, fs_rf, fs_M, fs_put, fs_cpy, ↓reduceIte, rv_ref, true_or, or_true, true_and, and_true, nI_ltI, ix_nI, nI_clamp, ps_i, ps_n, Option.bind_some, sm_0, sm_1, sm_2, sm_3, sm_4, sto_0, sto_1, sto_2, sto_3, sto_4, sto_5, sto_6, sto_7, sto_8, sto_9, sto_10, sto_11, sto_12, sto_13, sto_14, nlo_n, nlo_i, nlo_r, nlo_0, nlo_l, and_self, or_self, Nat.reduceEqDiff, Nat.reduceLT, Nat.reduceLeDiff, Nat.one_ne_zero, Nat.zero_ne_one, w0, f0, r7, m0, q0, a1, a2, e10, mk.1, k9, kf]), fun M' hR' => ?_⟩
    have k9 := r146ne md hR'.1 h8 hx (e := e) (by omega)
    have kf := r142 (M := M') md (k := 1) (by omega) (e := e) (by omega)
    (rw [j_C_eq]; simp (disch := omega) only [st_198_0, st_198_1, st_198_2, st_198_5, st_198_8, st_198_9, st_198_10, st_198_13, st_198_14, st_198_15, st_198_18, st_198_19, st_198_20, st_198_21, st_198_23, st_198_26, st_198_27, st_198_29, st_198_32, st_198_33, st_198_34, st_198_35, st_198_36, st_198_37, st_198_40, st_198_42, st_198_43, st_198_47, st_198_48, st_198_51, st_198_52, st_198_53, st_198_56, st_198_57, st_198_60, st_198_62, st_198_64, st_198_65, st_198_66, st_198_69, st_198_70, st_198_71, st_198_72, st_198_74, st_198_75, st_198_76, st_198_78, st_198_81, st_198_84, st_198_85, st_198_86, st_198_88, st_198_91, st_198_94, st_198_95, st_198_96, st_198_99, st_198_102, st_198_105, st_198_106, st_198_109, st_198_110, ini_198, fs_cl, fs_len, fs_rf, fs_M, fs_put, fs_cpy, ↓reduceIte, rv_ref, true_or, or_true, true_and, and_true, nI_ltI, ix_nI, nI_clamp, ps_i, ps_n, Option.bind_some, sm_0, sm_1, sm_2, sm_3, sm_4, sto_0, sto_1, sto_2, sto_3, sto_4, sto_5, sto_6, sto_7, sto_8, sto_9, sto_10, sto_11, sto_12, sto_13, sto_14, nlo_n, nlo_i, nlo_r, nlo_0, nlo_l, and_self, or_self, Nat.reduceEqDiff, Nat.reduceLT, Nat.reduceLeDiff, Nat.one_ne_zero, Nat.zero_ne_one, w0, f0, r7, m0, q0, a1, a2, e10, k9, kf])
theorem g_outcasts (hh : Hd h) (hi : IE M E z K0 K1 T W) : Go h M 102 201 [] := by
  have w0 := hh.1.1
  have f0 := hh.1.2.1
  have r7 := hh.1.2.2.2.2.2.2.2.1
  have mk := hh.2.1.1
  have th := hh.2.2.2.1.1
  have md : Md h 115 := hh.2.2.2.2.2.2.2.1
  have m0 := md.1
  have q0 := md.2.1.1
  have a1 := md.2.1.2.1
  have a2 := md.2.1.2.2.1
  have hw := hi.1.1
  have h6 := hw.1
  have h8 := hw.2.1
  have hm := hi.2.1.1
  have hs := hm.1
  have hR : RC M 115 E z K0 K1 := hi.2.2.1.1
  have sd := hi.2.2.2.1
  have e10 : ¬ nI 1 = nI 0 := by decide +kernel
  refine go_q hi ?_
  intro e he
  obtain ⟨e, rfl⟩ : ∃ d, e = d + 1 := ⟨e - 1, by omega⟩
  obtain ⟨M1, p1, p2⟩ := c28e mk hm hw (e := e) (by omega)
  have hR1 := RC_cq (cq_sg p2) hR
  obtain ⟨M2, s1, s2⟩ := r201 md hR1 hw (e := e + 1) (by omega)
  refine ⟨utS E K0 (E 1), M1, M2, ?_, cq_sg p2, Sd_sg p2 sd, s1, rg_wf s2, RC_wf s2 hR1⟩
  (rw [j_C_eq]; simp (disch := omega) only [st_102_0, st_102_1, st_102_4, st_102_7, ini_102, fs_cl, fs_len, fs_rf, fs_M, fs_put, fs_cpy, ↓reduceIte, rv_ref, true_or, or_true, true_and, and_true, nI_ltI, ix_nI, nI_clamp, ps_i, ps_n, Option.bind_some, sm_0, sm_1, sm_2, sm_3, sm_4, sto_0, sto_1, sto_2, sto_3, sto_4, sto_5, sto_6, sto_7, sto_8, sto_9, sto_10, sto_11, sto_12, sto_13, sto_14, nlo_n, nlo_i, nlo_r, nlo_0, nlo_l, and_self, or_self, Nat.reduceEqDiff, Nat.reduceLT, Nat.reduceLeDiff, Nat.one_ne_zero, Nat.zero_ne_one, w0, f0, r7, m0, q0, a1, a2, e10, mk.1, p1])
theorem g_takers (hh : Hd h) (hi : IE M E z K0 K1 T W) (x y : Int32) : Go h M 103 202 [.int x, .int y] := by
  have w0 := hh.1.1
  have f0 := hh.1.2.1
  have r7 := hh.1.2.2.2.2.2.2.2.1
  have mk := hh.2.1.1
  have th := hh.2.2.2.1.1
  have md : Md h 115 := hh.2.2.2.2.2.2.2.1
  have m0 := md.1
  have q0 := md.2.1.1
  have a1 := md.2.1.2.1
  have a2 := md.2.1.2.2.1
  have hw := hi.1.1
  have h6 := hw.1
  have h8 := hw.2.1
  have hm := hi.2.1.1
  have hs := hm.1
  have hR : RC M 115 E z K0 K1 := hi.2.2.1.1
  have sd := hi.2.2.2.1
  have e10 : ¬ nI 1 = nI 0 := by decide +kernel
  by_cases hx : ∃ j, j < E 1 ∧ x = nI j
  · obtain ⟨c, hc, rfl⟩ := hx
    by_cases hy : ∃ j, 0 ≤ j ∧ j ≤ 100 ∧ y = nI j
    · obtain ⟨n, hn0, hn, rfl⟩ := hy
      refine go_q hi ?_
      intro e he
      obtain ⟨e, rfl⟩ : ∃ d, e = d + 1 := ⟨e - 1, by omega⟩
      obtain ⟨M1, p1, p2, p3⟩ := c70e th mk (by omega) sd hm hw hc (by omega : n ≤ 1000) (by have := hi.1.2.1; omega) (e := e) (by omega)
      have hR1 := RC_cq (cq_mg p3) hR
      obtain ⟨M2, s1, s2, s3⟩ := r202 md hR1 hw hc hn hi.1.2.1 (e := e + 1) (by omega)
      refine ⟨tkS (dyN n E) K0 c (dyN n E 0), M1, M2, ?_, cq_mg p3, p2, s1, s3, s2⟩
      have k9 := c9ye (M := M) mk hs h8 hc (e := e) (by omega)
      have kw := c122e (σ := FS h M) (nI n) (nI 0) (nI 100) (e := e) (by omega)
      rw [wi_in hn0 hn (by omega)] at kw
      (rw [j_C_eq]; simp (disch := omega) only [st_103_0, st_103_1, st_103_4, st_103_5, st_103_8, st_103_11, st_103_12, st_103_13, st_103_15, st_103_18, st_103_21, st_103_22, st_103_23, st_103_26, st_103_27, st_103_28, st_103_31, st_103_32, st_103_35, st_103_36, st_103_37, st_103_40, ini_103, fs_cl, fs_len, fs_rf, fs_M, fs_put, fs_cpy, ↓reduceIte, rv_ref, true_or, or_true, true_and, and_true, nI_ltI, ix_nI, nI_clamp, ps_i, ps_n, Option.bind_some, sm_0, sm_1, sm_2, sm_3, sm_4, sto_0, sto_1, sto_2, sto_3, sto_4, sto_5, sto_6, sto_7, sto_8, sto_9, sto_10, sto_11, sto_12, sto_13, sto_14, nlo_n, nlo_i, nlo_r, nlo_0, nlo_l, and_self, or_self, Nat.reduceEqDiff, Nat.reduceLT, Nat.reduceLeDiff, Nat.one_ne_zero, Nat.zero_ne_one, w0, f0, r7, m0, q0, a1, a2, e10, mk.1, th.1, k9, kw, p1])
    · refine go_f0 hi (k := 1) ?_
      intro e he
      obtain ⟨e, rfl⟩ : ∃ d, e = d + 1 := ⟨e - 1, by omega⟩
      have k9 := c9ye (M := M) mk hs h8 hc (e := e) (by omega)
      have kw := c122e (σ := FS h M) y (nI 0) (nI 100) (e := e) (by omega)
      rw [wi_out hy (by omega) (by omega)] at kw
      have kf := c119 (M := M) hh (k := 1) (by omega) (e := e) (by omega)
      refine ⟨by (rw [j_C_eq]; simp (disch := omega) only [st_103_0, st_103_1, st_103_4, st_103_5, st_103_8, st_103_11, st_103_12, st_103_13, st_103_15, st_103_18, st_103_21, st_103_22, st_103_23, st_103_26, st_103_27, st_103_28, st_103_31, st_103_32, st_103_35, st_103_36, st_103_37, st_103_40, ini_103, fs_cl, fs_len, fs_rf, fs_M, fs_put, fs_cpy, ↓reduceIte, rv_ref, true_or, or_true, true_and, and_true, nI_ltI, ix_nI, nI_clamp, ps_i, ps_n, Option.bind_some, sm_0, sm_1, sm_2, sm_3, sm_4, sto_0, sto_1, sto_2, sto_3, sto_4, sto_5, sto_6, sto_7, sto_8, sto_9, sto_10, sto_11, sto_12, sto_13, sto_14, nlo_n, nlo_i, nlo_r, nlo_0, nlo_l, and_self, or_self, Nat.reduceEqDiff, Nat.reduceLT, Nat.reduceLeDiff, Nat.one_ne_zero, Nat.zero_ne_one, w0, f0, r7, m0, q0, a1, a2, e10, mk.1, k9, kw, kf]), fun M' hR' => ?_⟩
      have k9 := r146ye md hR'.1 h8 hc (e := e) (by omega)
      have kw := r143e (σ := FS h M') y.toInt64 (lN 0) (lN 100) (e := e) (by omega)
      rw [lin_out hy (by omega) (by omega)] at kw
      have kf := r142 (M := M') md (k := 1) (by omega) (e := e) (by omega)
      (rw [j_C_eq]; simp (disch := omega) only [st_202_0, st_202_1, st_202_2, st_202_5, st_202_8, st_202_9, st_202_10, st_202_11, st_202_14, st_202_17, st_202_20, st_202_21, st_202_22, st_202_25, st_202_26, st_202_27, st_202_30, st_202_31, st_202_32, st_202_35, st_202_36, st_202_37, st_202_40, st_202_41, st_202_42, st_202_45, st_202_46, ini_202, fs_cl, fs_len, fs_rf, fs_M, fs_put, fs_cpy, ↓reduceIte, rv_ref, true_or, or_true, true_and, and_true, nI_ltI, ix_nI, nI_clamp, ps_i, ps_n, Option.bind_some, sm_0, sm_1, sm_2, sm_3, sm_4, sto_0, sto_1, sto_2, sto_3, sto_4, sto_5, sto_6, sto_7, sto_8, sto_9, sto_10, sto_11, sto_12, sto_13, sto_14, nlo_n, nlo_i, nlo_r, nlo_0, nlo_l, and_self, or_self, Nat.reduceEqDiff, Nat.reduceLT, Nat.reduceLeDiff, Nat.one_ne_zero, Nat.zero_ne_one, w0, f0, r7, m0, q0, a1, a2, e10, k9, kw, kf])
  · refine go_f0 hi (k := 1) ?_
    intro e he
    obtain ⟨e, rfl⟩ : ∃ d, e = d + 1 := ⟨e - 1, by omega⟩
    have k9 := c9ne (M := M) mk hs h8 hx (e := e) (by omega)
    have kf := c119 (M := M) hh (k := 1) (by omega) (e := e) (by omega)
    refine ⟨by (rw [j_C_eq]; simp (disch := omega) only [st_103_0, st_103_1, st_103_4, st_103_5, st_103_8, st_103_11, st_103_12, st_103_13, st_103_15, st_103_18, st_103_21, st_103_22, st_103_23, st_103_26, st_103_27, st_103_28, st_103_31, st_103_32, st_103_35, st_103_36, st_103_37, st_103_40, ini_103, fs_cl, fs_len, fs_rf, fs_M, fs_put, fs_cpy, ↓reduceIte, rv_ref, true_or, or_true, true_and, and_true, nI_ltI, ix_nI, nI_clamp, ps_i, ps_n, Option.bind_some, sm_0, sm_1, sm_2, sm_3, sm_4, sto_0, sto_1, sto_2, sto_3, sto_4, sto_5, sto_6, sto_7, sto_8, sto_9, sto_10, sto_11, sto_12, sto_13, sto_14, nlo_n, nlo_i, nlo_r, nlo_0, nlo_l, and_self, or_self, Nat.reduceEqDiff, Nat.reduceLT, Nat.reduceLeDiff, Nat.one_ne_zero, Nat.zero_ne_one, w0, f0, r7, m0, q0, a1, a2, e10, mk.1, k9, kf]), fun M' hR' => ?_⟩
    have k9 := r146ne md hR'.1 h8 hx (e := e) (by omega)
    have kf := r142 (M := M') md (k := 1) (by omega) (e := e) (by omega)
    (rw [j_C_eq]; simp (disch := omega) only [st_202_0, st_202_1, st_202_2, st_202_5, st_202_8, st_202_9, st_202_10, st_202_11, st_202_14, st_202_17, st_202_20, st_202_21, st_202_22, st_202_25, st_202_26, st_202_27, st_202_30, st_202_31, st_202_32, st_202_35, st_202_36, st_202_37, st_202_40, st_202_41, st_202_42, st_202_45, st_202_46, ini_202, fs_cl, fs_len, fs_rf, fs_M, fs_put, fs_cpy, ↓reduceIte, rv_ref, true_or, or_true, true_and, and_true, nI_ltI, ix_nI, nI_clamp, ps_i, ps_n, Option.bind_some, sm_0, sm_1, sm_2, sm_3, sm_4, sto_0, sto_1, sto_2, sto_3, sto_4, sto_5, sto_6, sto_7, sto_8, sto_9, sto_10, sto_11, sto_12, sto_13, sto_14, nlo_n, nlo_i, nlo_r, nlo_0, nlo_l, and_self, or_self, Nat.reduceEqDiff, Nat.reduceLT, Nat.reduceLeDiff, Nat.one_ne_zero, Nat.zero_ne_one, w0, f0, r7, m0, q0, a1, a2, e10, k9, kf])
theorem g_tolls (hh : Hd h) (hi : IE M E z K0 K1 T W) (x y : Int32) : Go h M 104 203 [.int x, .int y] := by
  have w0 := hh.1.1
  have f0 := hh.1.2.1
  have r7 := hh.1.2.2.2.2.2.2.2.1
  have mk := hh.2.1.1
  have th := hh.2.2.2.1.1
  have md : Md h 115 := hh.2.2.2.2.2.2.2.1
  have m0 := md.1
  have q0 := md.2.1.1
  have a1 := md.2.1.2.1
  have a2 := md.2.1.2.2.1
  have hw := hi.1.1
  have h6 := hw.1
  have h8 := hw.2.1
  have hm := hi.2.1.1
  have hs := hm.1
  have hR : RC M 115 E z K0 K1 := hi.2.2.1.1
  have sd := hi.2.2.2.1
  have e10 : ¬ nI 1 = nI 0 := by decide +kernel
  by_cases hx : ∃ j, j < E 0 ∧ x = nI j
  · obtain ⟨c, hc, rfl⟩ := hx
    by_cases hy : ∃ j, 0 ≤ j ∧ j ≤ 100 ∧ y = nI j
    · obtain ⟨n, hn0, hn, rfl⟩ := hy
      refine go_q hi ?_
      intro e he
      obtain ⟨e, rfl⟩ : ∃ d, e = d + 1 := ⟨e - 1, by omega⟩
      obtain ⟨M1, p1, p2, p3⟩ := c71e th mk (by omega) sd hm hw (by omega : c < 10) (by omega : n ≤ 1000) (by have := hi.1.2.1; omega) (e := e) (by omega)
      have hR1 := RC_cq (cq_mg p3) hR
      obtain ⟨M2, s1, s2, s3⟩ := r203 md hR1 hw hc hn hi.1.2.1 (e := e + 1) (by omega)
      refine ⟨tyS K1 c n (nI 0) E, M1, M2, ?_, cq_mg p3, p2, s1, s3, s2⟩
      have k9 := c8ye (M := M) mk hs h6 hc (e := e) (by omega)
      have kw := c122e (σ := FS h M) (nI n) (nI 0) (nI 100) (e := e) (by omega)
      rw [wi_in hn0 hn (by omega)] at kw
      (rw [j_C_eq]; simp (disch := omega) only [st_104_0, st_104_1, st_104_4, st_104_5, st_104_8, st_104_11, st_104_12, st_104_13, st_104_15, st_104_18, st_104_21, st_104_22, st_104_23, st_104_26, st_104_27, st_104_28, st_104_31, st_104_32, st_104_35, st_104_36, st_104_37, st_104_40, ini_104, fs_cl, fs_len, fs_rf, fs_M, fs_put, fs_cpy, ↓reduceIte, rv_ref, true_or, or_true, true_and, and_true, nI_ltI, ix_nI, nI_clamp, ps_i, ps_n, Option.bind_some, sm_0, sm_1, sm_2, sm_3, sm_4, sto_0, sto_1, sto_2, sto_3, sto_4, sto_5, sto_6, sto_7, sto_8, sto_9, sto_10, sto_11, sto_12, sto_13, sto_14, nlo_n, nlo_i, nlo_r, nlo_0, nlo_l, and_self, or_self, Nat.reduceEqDiff, Nat.reduceLT, Nat.reduceLeDiff, Nat.one_ne_zero, Nat.zero_ne_one, w0, f0, r7, m0, q0, a1, a2, e10, mk.1, th.1, k9, kw, p1])
    · refine go_f0 hi (k := 1) ?_
      intro e he
      obtain ⟨e, rfl⟩ : ∃ d, e = d + 1 := ⟨e - 1, by omega⟩
      have k9 := c8ye (M := M) mk hs h6 hc (e := e) (by omega)
      have kw := c122e (σ := FS h M) y (nI 0) (nI 100) (e := e) (by omega)
      rw [wi_out hy (by omega) (by omega)] at kw
      have kf := c119 (M := M) hh (k := 1) (by omega) (e := e) (by omega)
      refine ⟨by (rw [j_C_eq]; simp (disch := omega) only [st_104_0, st_104_1, st_104_4, st_104_5, st_104_8, st_104_11, st_104_12, st_104_13, st_104_15, st_104_18, st_104_21, st_104_22, st_104_23, st_104_26, st_104_27, st_104_28, st_104_31, st_104_32, st_104_35, st_104_36, st_104_37, st_104_40, ini_104, fs_cl, fs_len, fs_rf, fs_M, fs_put, fs_cpy, ↓reduceIte, rv_ref, true_or, or_true, true_and, and_true, nI_ltI, ix_nI, nI_clamp, ps_i, ps_n, Option.bind_some, sm_0, sm_1, sm_2, sm_3, sm_4, sto_0, sto_1, sto_2, sto_3, sto_4, sto_5, sto_6, sto_7, sto_8, sto_9, sto_10, sto_11, sto_12, sto_13, sto_14, nlo_n, nlo_i, nlo_r, nlo_0, nlo_l, and_self, or_self, Nat.reduceEqDiff, Nat.reduceLT, Nat.reduceLeDiff, Nat.one_ne_zero, Nat.zero_ne_one, w0, f0, r7, m0, q0, a1, a2, e10, mk.1, k9, kw, kf]), fun M' hR' => ?_⟩
      have k9 := r145ye md hR'.1 h6 hc (e := e) (by omega)
      have kw := r143e (σ := FS h M') y.toInt64 (lN 0) (lN 100) (e := e) (by omega)
      rw [lin_out hy (by omega) (by omega)] at kw
      have kf := r142 (M := M') md (k := 1) (by omega) (e := e) (by omega)
      (rw [j_C_eq]; simp (disch := omega) only [st_203_0, st_203_1, st_203_2, st_203_5, st_203_8, st_203_9, st_203_10, st_203_11, st_203_14, st_203_17, st_203_20, st_203_21, st_203_22, st_203_25, st_203_26, st_203_27, st_203_30, st_203_31, st_203_32, st_203_33, st_203_37, st_203_38, st_203_41, st_203_42, st_203_46, st_203_47, st_203_50, st_203_51, st_203_52, st_203_55, st_203_56, st_203_57, st_203_59, st_203_60, st_203_63, st_203_64, st_203_67, st_203_68, st_203_69, st_203_70, st_203_72, st_203_73, st_203_76, st_203_77, st_203_79, st_203_82, st_203_83, st_203_86, st_203_87, st_203_88, st_203_91, st_203_94, st_203_95, st_203_96, st_203_97, st_203_100, st_203_103, st_203_104, st_203_107, st_203_110, st_203_113, st_203_114, st_203_117, st_203_118, ini_203, fs_cl, fs_len, fs_rf, fs_M, fs_put, fs_cpy, ↓reduceIte, rv_ref, true_or, or_true, true_and, and_true, nI_ltI, ix_nI, nI_clamp, ps_i, ps_n, Option.bind_some, sm_0, sm_1, sm_2, sm_3, sm_4, sto_0, sto_1, sto_2, sto_3, sto_4, sto_5, sto_6, sto_7, sto_8, sto_9, sto_10, sto_11, sto_12, sto_13, sto_14, nlo_n, nlo_i, nlo_r, nlo_0, nlo_l, and_self, or_self, Nat.reduceEqDiff, Nat.reduceLT, Nat.reduceLeDiff, Nat.one_ne_zero, Nat.zero_ne_one, w0, f0, r7, m0, q0, a1, a2, e10, k9, kw, kf])
  · refine go_f0 hi (k := 1) ?_
    intro e he
    obtain ⟨e, rfl⟩ : ∃ d, e = d + 1 := ⟨e - 1, by omega⟩
    have k9 := c8ne (M := M) mk hs h6 hx (e := e) (by omega)
    have kf := c119 (M := M) hh (k := 1) (by omega) (e := e) (by omega)
    refine ⟨by (rw [j_C_eq]; simp (disch := omega) only [st_104_0, st_104_1, st_104_4, st_104_5, st_104_8, st_104_11, st_104_12, st_104_13, st_104_15, st_104_18, st_104_21, st_104_22, st_104_23, st_104_26, st_104_27, st_104_28, st_104_31, st_104_32, st_104_35, st_104_36, st_104_37, st_104_40, ini_104, fs_cl, fs_len, fs_rf, fs_M, fs_put, fs_cpy, ↓reduceIte, rv_ref, true_or, or_true, true_and, and_true, nI_ltI, ix_nI, nI_clamp, ps_i, ps_n, Option.bind_some, sm_0, sm_1, sm_2, sm_3, sm_4, sto_0, sto_1, sto_2, sto_3, sto_4, sto_5, sto_6, sto_7, sto_8, sto_9, sto_10, sto_11, sto_12, sto_13, sto_14, nlo_n, nlo_i, nlo_r, nlo_0, nlo_l, and_self, or_self, Nat.reduceEqDiff, Nat.reduceLT, Nat.reduceLeDiff, Nat.one_ne_zero, Nat.zero_ne_one, w0, f0, r7, m0, q0, a1, a2, e10, mk.1, k9, kf]), fun M' hR' => ?_⟩
    have k9 := r145ne md hR'.1 h6 hx (e := e) (by omega)
    have kf := r142 (M := M') md (k := 1) (by omega) (e := e) (by omega)
    (rw [j_C_eq]; simp (disch := omega) only [st_203_0, st_203_1, st_203_2, st_203_5, st_203_8, st_203_9, st_203_10, st_203_11, st_203_14, st_203_17, st_203_20, st_203_21, st_203_22, st_203_25, st_203_26, st_203_27, st_203_30, st_203_31, st_203_32, st_203_33, st_203_37, st_203_38, st_203_41, st_203_42, st_203_46, st_203_47, st_203_50, st_203_51, st_203_52, st_203_55, st_203_56, st_203_57, st_203_59, st_203_60, st_203_63, st_203_64, st_203_67, st_203_68, st_203_69, st_203_70, st_203_72, st_203_73, st_203_76, st_203_77, st_203_79, st_203_82, st_203_83, st_203_86, st_203_87, st_203_88, st_203_91, st_203_94, st_203_95, st_203_96, st_203_97, st_203_100, st_203_103, st_203_104, st_203_107, st_203_110, st_203_113, st_203_114, st_203_117, st_203_118, ini_203, fs_cl, fs_len, fs_rf, fs_M, fs_put, fs_cpy, ↓reduceIte, rv_ref, true_or, or_true, true_and, and_true, nI_ltI, ix_nI, nI_clamp, ps_i, ps_n, Option.bind_some, sm_0, sm_1, sm_2, sm_3, sm_4, sto_0, sto_1, sto_2, sto_3, sto_4, sto_5, sto_6, sto_7, sto_8, sto_9, sto_10, sto_11, sto_12, sto_13, sto_14, nlo_n, nlo_i, nlo_r, nlo_0, nlo_l, and_self, or_self, Nat.reduceEqDiff, Nat.reduceLT, Nat.reduceLeDiff, Nat.one_ne_zero, Nat.zero_ne_one, w0, f0, r7, m0, q0, a1, a2, e10, k9, kf])
theorem g_law (hh : Hd h) (hi : IE M E z K0 K1 T W) (u x y v : Int32) : Go h M 91 165 [.int u, .int x, .int y, .int v] := by
  have w0 := hh.1.1
  have f0 := hh.1.2.1
  have r7 := hh.1.2.2.2.2.2.2.2.1
  have mk := hh.2.1.1
  have th := hh.2.2.2.1.1
  have md : Md h 115 := hh.2.2.2.2.2.2.2.1
  have m0 := md.1
  have q0 := md.2.1.1
  have a1 := md.2.1.2.1
  have a2 := md.2.1.2.2.1
  have hw := hi.1.1
  have h6 := hw.1
  have h8 := hw.2.1
  have hm := hi.2.1.1
  have hs := hm.1
  have hR : RC M 115 E z K0 K1 := hi.2.2.1.1
  have sd := hi.2.2.2.1
  have e10 : ¬ nI 1 = nI 0 := by decide +kernel
  have k127 : ∀ (σ : j_St) e, 1 ≤ e → j_C e 127 [.int u] σ = some (some (.int (if u = nI 0 ∨ u = nI 1 then nI 1 else nI 0)), σ) := by
    intro σ e he
    obtain ⟨e, rfl⟩ : ∃ d, e = d + 1 := ⟨e - 1, by omega⟩
    by_cases c0 : u = nI 0
    · rw [if_pos (.inl c0)]
      (rw [j_C_eq]; simp (disch := omega) only [st_127_0, st_127_1, st_127_4, st_127_5, st_127_6, st_127_9, st_127_10, st_127_13, st_127_14, ini_127, fs_cl, fs_len, fs_rf, fs_M, fs_put, fs_cpy, ↓reduceIte, rv_ref, true_or, or_true, true_and, and_true, nI_ltI, ix_nI, nI_clamp, ps_i, ps_n, Option.bind_some, sm_0, sm_1, sm_2, sm_3, sm_4, sto_0, sto_1, sto_2, sto_3, sto_4, sto_5, sto_6, sto_7, sto_8, sto_9, sto_10, sto_11, sto_12, sto_13, sto_14, nlo_n, nlo_i, nlo_r, nlo_0, nlo_l, and_self, or_self, Nat.reduceEqDiff, Nat.reduceLT, Nat.reduceLeDiff, Nat.one_ne_zero, Nat.zero_ne_one, w0, f0, r7, m0, q0, a1, a2, e10, eq_true c0])
    · by_cases c1 : u = nI 1
      · rw [if_pos (.inr c1)]
        (rw [j_C_eq]; simp (disch := omega) only [st_127_0, st_127_1, st_127_4, st_127_5, st_127_6, st_127_9, st_127_10, st_127_13, st_127_14, ini_127, fs_cl, fs_len, fs_rf, fs_M, fs_put, fs_cpy, ↓reduceIte, rv_ref, true_or, or_true, true_and, and_true, nI_ltI, ix_nI, nI_clamp, ps_i, ps_n, Option.bind_some, sm_0, sm_1, sm_2, sm_3, sm_4, sto_0, sto_1, sto_2, sto_3, sto_4, sto_5, sto_6, sto_7, sto_8, sto_9, sto_10, sto_11, sto_12, sto_13, sto_14, nlo_n, nlo_i, nlo_r, nlo_0, nlo_l, and_self, or_self, Nat.reduceEqDiff, Nat.reduceLT, Nat.reduceLeDiff, Nat.one_ne_zero, Nat.zero_ne_one, w0, f0, r7, m0, q0, a1, a2, e10, c0, eq_true c1])
      · rw [if_neg (fun hh => hh.elim c0 c1)]
        (rw [j_C_eq]; simp (disch := omega) only [st_127_0, st_127_1, st_127_4, st_127_5, st_127_6, st_127_9, st_127_10, st_127_13, st_127_14, ini_127, fs_cl, fs_len, fs_rf, fs_M, fs_put, fs_cpy, ↓reduceIte, rv_ref, true_or, or_true, true_and, and_true, nI_ltI, ix_nI, nI_clamp, ps_i, ps_n, Option.bind_some, sm_0, sm_1, sm_2, sm_3, sm_4, sto_0, sto_1, sto_2, sto_3, sto_4, sto_5, sto_6, sto_7, sto_8, sto_9, sto_10, sto_11, sto_12, sto_13, sto_14, nlo_n, nlo_i, nlo_r, nlo_0, nlo_l, and_self, or_self, Nat.reduceEqDiff, Nat.reduceLT, Nat.reduceLeDiff, Nat.one_ne_zero, Nat.zero_ne_one, w0, f0, r7, m0, q0, a1, a2, e10, c0, c1])
  by_cases hu : u = nI 0 ∨ u = nI 1
  · rw [if_pos hu] at k127
    rcases hu with hu | hu
    · subst hu
      refine go_q hi ?_
      intro e he
      obtain ⟨e, rfl⟩ : ∃ d, e = d + 1 := ⟨e - 1, by omega⟩
      obtain ⟨M1, p1, p2⟩ := c16ae mk hm.2.2.2.2.2.1 x y v (e := e) (by omega)
      have hR1 := RC_cq (cq_sg p2) hR
      obtain ⟨M2, s1, s2⟩ := r164 md (K := K0) (u := 0) (by omega) hR1.2.1 x y v (e := e) (by omega)
      rw [if_pos rfl] at s1
      refine ⟨gv0 K0 x y v, M1, M2, ?_, cq_sg p2, Sd_sg p2 sd, ?_, rg_wf s2, RC_wf s2 hR1⟩
      · have k := k127 (FS h M) e (by omega)
        (rw [j_C_eq]; simp (disch := omega) only [st_91_0, st_91_1, st_91_4, st_91_7, st_91_8, st_91_11, st_91_12, st_91_13, st_91_14, st_91_16, st_91_19, st_91_22, st_91_23, st_91_24, st_91_27, ini_91, fs_cl, fs_len, fs_rf, fs_M, fs_put, fs_cpy, ↓reduceIte, rv_ref, true_or, or_true, true_and, and_true, nI_ltI, ix_nI, nI_clamp, ps_i, ps_n, Option.bind_some, sm_0, sm_1, sm_2, sm_3, sm_4, sto_0, sto_1, sto_2, sto_3, sto_4, sto_5, sto_6, sto_7, sto_8, sto_9, sto_10, sto_11, sto_12, sto_13, sto_14, nlo_n, nlo_i, nlo_r, nlo_0, nlo_l, and_self, or_self, Nat.reduceEqDiff, Nat.reduceLT, Nat.reduceLeDiff, Nat.one_ne_zero, Nat.zero_ne_one, w0, f0, r7, m0, q0, a1, a2, e10, mk.1, k, p1])
      · have kl := r143e (σ := FS h M1) (nI 0).toInt64 (lN 0) (lN 1) (e := e) (by omega)
        rw [lin_in (Nat.le_refl 0) (by omega : 0 ≤ 1) (by omega)] at kl
        (rw [j_C_eq]; simp (disch := omega) only [st_165_0, st_165_1, st_165_2, st_165_3, st_165_4, st_165_7, st_165_10, st_165_11, st_165_12, st_165_13, st_165_14, st_165_16, st_165_19, st_165_22, st_165_23, st_165_24, st_165_27, ini_165, fs_cl, fs_len, fs_rf, fs_M, fs_put, fs_cpy, ↓reduceIte, rv_ref, true_or, or_true, true_and, and_true, nI_ltI, ix_nI, nI_clamp, ps_i, ps_n, Option.bind_some, sm_0, sm_1, sm_2, sm_3, sm_4, sto_0, sto_1, sto_2, sto_3, sto_4, sto_5, sto_6, sto_7, sto_8, sto_9, sto_10, sto_11, sto_12, sto_13, sto_14, nlo_n, nlo_i, nlo_r, nlo_0, nlo_l, and_self, or_self, Nat.reduceEqDiff, Nat.reduceLT, Nat.reduceLeDiff, Nat.one_ne_zero, Nat.zero_ne_one, w0, f0, r7, m0, q0, a1, a2, e10, kl, s1])
    · subst hu
      have e12 : ¬ (1 : Nat) = 0 := by omega
      refine go_q hi ?_
      intro e he
      obtain ⟨e, rfl⟩ : ∃ d, e = d + 1 := ⟨e - 1, by omega⟩
      obtain ⟨M1, p1, p2⟩ := c16be mk hm.2.2.2.2.2.2 x y v (e := e) (by omega)
      have hR1 := RC_cq (cq_sg p2) hR
      obtain ⟨M2, s1, s2⟩ := r164 md (K := K1) (u := 1) (by omega) hR1.2.2 x y v (e := e) (by omega)
      rw [if_neg e12] at s1
      refine ⟨gv1 K1 x y v, M1, M2, ?_, cq_sg p2, Sd_sg p2 sd, ?_, rg_wf s2, RC_wf s2 hR1⟩
      · have k := k127 (FS h M) e (by omega)
        (rw [j_C_eq]; simp (disch := omega) only [st_91_0, st_91_1, st_91_4, st_91_7, st_91_8, st_91_11, st_91_12, st_91_13, st_91_14, st_91_16, st_91_19, st_91_22, st_91_23, st_91_24, st_91_27, ini_91, fs_cl, fs_len, fs_rf, fs_M, fs_put, fs_cpy, ↓reduceIte, rv_ref, true_or, or_true, true_and, and_true, nI_ltI, ix_nI, nI_clamp, ps_i, ps_n, Option.bind_some, sm_0, sm_1, sm_2, sm_3, sm_4, sto_0, sto_1, sto_2, sto_3, sto_4, sto_5, sto_6, sto_7, sto_8, sto_9, sto_10, sto_11, sto_12, sto_13, sto_14, nlo_n, nlo_i, nlo_r, nlo_0, nlo_l, and_self, or_self, Nat.reduceEqDiff, Nat.reduceLT, Nat.reduceLeDiff, Nat.one_ne_zero, Nat.zero_ne_one, w0, f0, r7, m0, q0, a1, a2, e10, mk.1, k, p1])
      · have kl := r143e (σ := FS h M1) (nI 1).toInt64 (lN 0) (lN 1) (e := e) (by omega)
        rw [lin_in (by omega : 0 ≤ 1) (Nat.le_refl 1) (by omega)] at kl
        (rw [j_C_eq]; simp (disch := omega) only [st_165_0, st_165_1, st_165_2, st_165_3, st_165_4, st_165_7, st_165_10, st_165_11, st_165_12, st_165_13, st_165_14, st_165_16, st_165_19, st_165_22, st_165_23, st_165_24, st_165_27, ini_165, fs_cl, fs_len, fs_rf, fs_M, fs_put, fs_cpy, ↓reduceIte, rv_ref, true_or, or_true, true_and, and_true, nI_ltI, ix_nI, nI_clamp, ps_i, ps_n, Option.bind_some, sm_0, sm_1, sm_2, sm_3, sm_4, sto_0, sto_1, sto_2, sto_3, sto_4, sto_5, sto_6, sto_7, sto_8, sto_9, sto_10, sto_11, sto_12, sto_13, sto_14, nlo_n, nlo_i, nlo_r, nlo_0, nlo_l, and_self, or_self, Nat.reduceEqDiff, Nat.reduceLT, Nat.reduceLeDiff, Nat.one_ne_zero, Nat.zero_ne_one, w0, f0, r7, m0, q0, a1, a2, e10, kl, s1])
  · rw [if_neg hu] at k127
    refine go_f0 hi (k := 1) ?_
    intro e he
    obtain ⟨e, rfl⟩ : ∃ d, e = d + 1 := ⟨e - 1, by omega⟩
    have k := k127 (FS h M) e (by omega)
    have kf := c119 (M := M) hh (k := 1) (by omega) (e := e) (by omega)
    refine ⟨by (rw [j_C_eq]; simp (disch := omega) only [st_91_0, st_91_1, st_91_4, st_91_7, st_91_8, st_91_11, st_91_12, st_91_13, st_91_14, st_91_16, st_91_19, st_91_22, st_91_23, st_91_24, st_91_27, ini_91, fs_cl, fs_len, fs_rf, fs_M, fs_put, fs_cpy, ↓reduceIte, rv_ref, true_or, or_true, true_and, and_true, nI_ltI, ix_nI, nI_clamp, ps_i, ps_n, Option.bind_some, sm_0, sm_1, sm_2, sm_3, sm_4, sto_0, sto_1, sto_2, sto_3, sto_4, sto_5, sto_6, sto_7, sto_8, sto_9, sto_10, sto_11, sto_12, sto_13, sto_14, nlo_n, nlo_i, nlo_r, nlo_0, nlo_l, and_self, or_self, Nat.reduceEqDiff, Nat.reduceLT, Nat.reduceLeDiff, Nat.one_ne_zero, Nat.zero_ne_one, w0, f0, r7, m0, q0, a1, a2, e10, k, kf]), fun M' hR' => ?_⟩
    have kl := r143e (σ := FS h M') u.toInt64 (lN 0) (lN 1) (e := e) (by omega)
    rw [lin_out (fun ⟨j, j1, j2, j3⟩ => hu (by
      have : j = 0 ∨ j = 1 := by omega
      rcases this with e | e <;> (subst e; first | exact .inl j3 | exact .inr j3))) (by omega) (by omega)] at kl
    have kf := r142 (M := M') md (k := 1) (by omega) (e := e) (by omega)
    (rw [j_C_eq]; simp (disch := omega) only [st_165_0, st_165_1, st_165_2, st_165_3, st_165_4, st_165_7, st_165_10, st_165_11, st_165_12, st_165_13, st_165_14, st_165_16, st_165_19, st_165_22, st_165_23, st_165_24, st_165_27, ini_165, fs_cl, fs_len, fs_rf, fs_M, fs_put, fs_cpy, ↓reduceIte, rv_ref, true_or, or_true, true_and, and_true, nI_ltI, ix_nI, nI_clamp, ps_i, ps_n, Option.bind_some, sm_0, sm_1, sm_2, sm_3, sm_4, sto_0, sto_1, sto_2, sto_3, sto_4, sto_5, sto_6, sto_7, sto_8, sto_9, sto_10, sto_11, sto_12, sto_13, sto_14, nlo_n, nlo_i, nlo_r, nlo_0, nlo_l, and_self, or_self, Nat.reduceEqDiff, Nat.reduceLT, Nat.reduceLeDiff, Nat.one_ne_zero, Nat.zero_ne_one, w0, f0, r7, m0, q0, a1, a2, e10, kl, kf])
theorem g_seed (hh : Hd h) (hi : IE M E z K0 K1 T W) (v : Int32) : Go h M 105 204 [.int v] := by
  have w0 := hh.1.1
  have f0 := hh.1.2.1
  have r7 := hh.1.2.2.2.2.2.2.2.1
  have mk := hh.2.1.1
  have th := hh.2.2.2.1.1
  have md : Md h 115 := hh.2.2.2.2.2.2.2.1
  have m0 := md.1
  have q0 := md.2.1.1
  have a1 := md.2.1.2.1
  have a2 := md.2.1.2.2.1
  have hw := hi.1.1
  have h6 := hw.1
  have h8 := hw.2.1
  have hm := hi.2.1.1
  have hs := hm.1
  have hR : RC M 115 E z K0 K1 := hi.2.2.1.1
  have sd := hi.2.2.2.1
  have e10 : ¬ nI 1 = nI 0 := by decide +kernel
  have gz : M 2 13 = z := hm.2.2.2.2.1.2.2.2
  refine go_c hi ?_
  intro e he
  obtain ⟨e, rfl⟩ : ∃ d, e = d + 1 := ⟨e - 1, by omega⟩
  have g5 := (RC_mg (M1 := j_up M 2 13 v) (mg_up 2 (by omega) (by omega)) hR)
  have z5 := g5.1.2
  have i5 : 5 < 250 := by omega
  refine ⟨z, j_up M 2 13 v, j_up (j_up M 2 13 v) 116 5 v, E, v, ?_, CM_z hm v, mg_up 2 (by omega) (by omega), ?_, rg_ld (o := 115) (ld_up (by omega)), RC_ld (o := 115) (ld_up (by omega)) (RLd_z (o := 115) g5.1 v) g5, hi.1, rfl, rfl⟩
  · (rw [j_C_eq]; simp (disch := omega) only [st_105_0, st_105_1, st_105_4, st_105_7, st_105_8, st_105_9, st_105_12, st_105_13, st_105_16, st_105_17, ini_105, fs_cl, fs_len, fs_rf, fs_M, fs_put, fs_cpy, ↓reduceIte, rv_ref, true_or, or_true, true_and, and_true, nI_ltI, ix_nI, nI_clamp, ps_i, ps_n, Option.bind_some, sm_0, sm_1, sm_2, sm_3, sm_4, sto_0, sto_1, sto_2, sto_3, sto_4, sto_5, sto_6, sto_7, sto_8, sto_9, sto_10, sto_11, sto_12, sto_13, sto_14, nlo_n, nlo_i, nlo_r, nlo_0, nlo_l, and_self, or_self, Nat.reduceEqDiff, Nat.reduceLT, Nat.reduceLeDiff, Nat.one_ne_zero, Nat.zero_ne_one, w0, f0, r7, m0, q0, a1, a2, e10, mk.1, gz])
  · (rw [j_C_eq]; simp (disch := omega) only [st_204_0, st_204_1, st_204_4, st_204_5, st_204_6, st_204_7, st_204_8, st_204_11, st_204_12, st_204_13, st_204_14, st_204_15, ini_204, fs_cl, fs_len, fs_rf, fs_M, fs_put, fs_cpy, ↓reduceIte, rv_ref, true_or, or_true, true_and, and_true, nI_ltI, ix_nI, nI_clamp, ps_i, ps_n, Option.bind_some, sm_0, sm_1, sm_2, sm_3, sm_4, sto_0, sto_1, sto_2, sto_3, sto_4, sto_5, sto_6, sto_7, sto_8, sto_9, sto_10, sto_11, sto_12, sto_13, sto_14, nlo_n, nlo_i, nlo_r, nlo_0, nlo_l, and_self, or_self, Nat.reduceEqDiff, Nat.reduceLT, Nat.reduceLeDiff, Nat.one_ne_zero, Nat.zero_ne_one, w0, f0, r7, m0, q0, a1, a2, e10, z5, i5])
theorem g_fade (hh : Hd h) (hi : IE M E z K0 K1 T W) (x : Int32) : Go h M 88 173 [.int x] := by
  have w0 := hh.1.1
  have f0 := hh.1.2.1
  have r7 := hh.1.2.2.2.2.2.2.2.1
  have mk := hh.2.1.1
  have th := hh.2.2.2.1.1
  have md : Md h 115 := hh.2.2.2.2.2.2.2.1
  have m0 := md.1
  have q0 := md.2.1.1
  have a1 := md.2.1.2.1
  have a2 := md.2.1.2.2.1
  have hw := hi.1.1
  have h6 := hw.1
  have h8 := hw.2.1
  have hm := hi.2.1.1
  have hs := hm.1
  have hR : RC M 115 E z K0 K1 := hi.2.2.1.1
  have sd := hi.2.2.2.1
  have e10 : ¬ nI 1 = nI 0 := by decide +kernel
  have gf : M 2 11 = nI (E 4) := hm.2.2.2.2.1.2.1
  by_cases hx : ∃ j, 1 ≤ j ∧ j ≤ 9 ∧ x = nI j
  · obtain ⟨n, hn1, hn, rfl⟩ := hx
    refine go_c hi ?_
    intro e he
    obtain ⟨e, rfl⟩ : ∃ d, e = d + 1 := ⟨e - 1, by omega⟩
    have hR1 := RC_mg (M1 := j_up M 2 11 (nI n)) (mg_up 2 (by omega) (by omega)) hR
    have g4 := hR1.1.1 4 (by omega) (by omega)
    have i4 : 4 < 250 := by omega
    have hw2 : WE (upE E 4 n) := by
      obtain ⟨y0, y1, y2, y3, y4, y5, y6, y7⟩ := hw
      refine ⟨by rw [upE_o _ (by omega)]; exact y0, by rw [upE_o _ (by omega)]; exact y1, by rw [upE_o _ (by omega)]; exact y2, by rw [upE_o _ (by omega)]; exact y3, by rw [upE_s]; exact hn1, by rw [upE_s]; exact hn, fun t ht => ?_, fun c hc => ?_⟩
      · rw [upE_o _ (by omega)] at ht
        have := y6 t ht
        unfold Tv at this ⊢
        rw [upE_o _ (by omega), upE_o _ (by omega), upE_o _ (by omega), upE_o _ (by omega), upE_o _ (by omega)]
        exact this
      · rw [upE_o _ (by omega)] at hc
        have := y7 c hc
        unfold Cv at this ⊢
        rw [upE_o _ (by omega), upE_o _ (by omega), upE_o _ (by omega), upE_o _ (by omega), upE_o _ (by omega), upE_o _ (by omega)]
        exact this
    refine ⟨nI (E 4), j_up M 2 11 (nI n), j_up (j_up M 2 11 (nI n)) 116 4 (nI n), upE E 4 n, z, ?_, CM_fade hm h6 h8 n, mg_up 2 (by omega) (by omega), ?_, rg_ld (o := 115) (ld_up (by omega)), RC_ld (o := 115) (ld_up (by omega)) (RLd_up (o := 115) hR1.1 (by omega)) hR1, ⟨hw2, by rw [upE_o _ (by omega)]; exact hi.1.2.1, by rw [upE_o _ (by omega)]; exact hi.1.2.2.1, by rw [upE_o _ (by omega)]; exact hi.1.2.2.2⟩, upE_o _ (by omega), upE_o _ (by omega)⟩
    · have kw := c122e (σ := FS h M) (nI n) (nI 1) (nI 9) (e := e) (by omega)
      rw [wi_in hn1 hn (by omega)] at kw
      (rw [j_C_eq]; simp (disch := omega) only [st_88_0, st_88_1, st_88_2, st_88_4, st_88_7, st_88_10, st_88_11, st_88_12, st_88_15, st_88_16, st_88_17, st_88_20, st_88_23, st_88_24, st_88_25, st_88_28, st_88_29, st_88_32, st_88_33, ini_88, fs_cl, fs_len, fs_rf, fs_M, fs_put, fs_cpy, ↓reduceIte, rv_ref, true_or, or_true, true_and, and_true, nI_ltI, ix_nI, nI_clamp, ps_i, ps_n, Option.bind_some, sm_0, sm_1, sm_2, sm_3, sm_4, sto_0, sto_1, sto_2, sto_3, sto_4, sto_5, sto_6, sto_7, sto_8, sto_9, sto_10, sto_11, sto_12, sto_13, sto_14, nlo_n, nlo_i, nlo_r, nlo_0, nlo_l, and_self, or_self, Nat.reduceEqDiff, Nat.reduceLT, Nat.reduceLeDiff, Nat.one_ne_zero, Nat.zero_ne_one, w0, f0, r7, m0, q0, a1, a2, e10, mk.1, kw, gf])
    · have kl := r143e (σ := FS h (j_up M 2 11 (nI n))) (nI n).toInt64 (lN 1) (lN 9) (e := e) (by omega)
      rw [lin_in hn1 hn (by omega)] at kl
      (rw [j_C_eq]; simp (disch := omega) only [st_173_0, st_173_1, st_173_2, st_173_3, st_173_6, st_173_9, st_173_12, st_173_13, st_173_14, st_173_17, st_173_18, st_173_19, st_173_22, st_173_23, st_173_24, st_173_25, st_173_26, st_173_29, st_173_30, st_173_31, st_173_32, st_173_33, ini_173, fs_cl, fs_len, fs_rf, fs_M, fs_put, fs_cpy, ↓reduceIte, rv_ref, true_or, or_true, true_and, and_true, nI_ltI, ix_nI, nI_clamp, ps_i, ps_n, Option.bind_some, sm_0, sm_1, sm_2, sm_3, sm_4, sto_0, sto_1, sto_2, sto_3, sto_4, sto_5, sto_6, sto_7, sto_8, sto_9, sto_10, sto_11, sto_12, sto_13, sto_14, nlo_n, nlo_i, nlo_r, nlo_0, nlo_l, and_self, or_self, Nat.reduceEqDiff, Nat.reduceLT, Nat.reduceLeDiff, Nat.one_ne_zero, Nat.zero_ne_one, w0, f0, r7, m0, q0, a1, a2, e10, kl, g4, i4])
  · refine go_f0 hi (k := 1) ?_
    intro e he
    obtain ⟨e, rfl⟩ : ∃ d, e = d + 1 := ⟨e - 1, by omega⟩
    have kw := c122e (σ := FS h M) x (nI 1) (nI 9) (e := e) (by omega)
    rw [wi_out hx (by omega) (by omega)] at kw
    have kf := c119 (M := M) hh (k := 1) (by omega) (e := e) (by omega)
    refine ⟨by (rw [j_C_eq]; simp (disch := omega) only [st_88_0, st_88_1, st_88_2, st_88_4, st_88_7, st_88_10, st_88_11, st_88_12, st_88_15, st_88_16, st_88_17, st_88_20, st_88_23, st_88_24, st_88_25, st_88_28, st_88_29, st_88_32, st_88_33, ini_88, fs_cl, fs_len, fs_rf, fs_M, fs_put, fs_cpy, ↓reduceIte, rv_ref, true_or, or_true, true_and, and_true, nI_ltI, ix_nI, nI_clamp, ps_i, ps_n, Option.bind_some, sm_0, sm_1, sm_2, sm_3, sm_4, sto_0, sto_1, sto_2, sto_3, sto_4, sto_5, sto_6, sto_7, sto_8, sto_9, sto_10, sto_11, sto_12, sto_13, sto_14, nlo_n, nlo_i, nlo_r, nlo_0, nlo_l, and_self, or_self, Nat.reduceEqDiff, Nat.reduceLT, Nat.reduceLeDiff, Nat.one_ne_zero, Nat.zero_ne_one, w0, f0, r7, m0, q0, a1, a2, e10, kw, kf]), fun M' hR' => ?_⟩
    have kl := r143e (σ := FS h M') x.toInt64 (lN 1) (lN 9) (e := e) (by omega)
    rw [lin_out hx (by omega) (by omega)] at kl
    have kf := r142 (M := M') md (k := 1) (by omega) (e := e) (by omega)
    (rw [j_C_eq]; simp (disch := omega) only [st_173_0, st_173_1, st_173_2, st_173_3, st_173_6, st_173_9, st_173_12, st_173_13, st_173_14, st_173_17, st_173_18, st_173_19, st_173_22, st_173_23, st_173_24, st_173_25, st_173_26, st_173_29, st_173_30, st_173_31, st_173_32, st_173_33, ini_173, fs_cl, fs_len, fs_rf, fs_M, fs_put, fs_cpy, ↓reduceIte, rv_ref, true_or, or_true, true_and, and_true, nI_ltI, ix_nI, nI_clamp, ps_i, ps_n, Option.bind_some, sm_0, sm_1, sm_2, sm_3, sm_4, sto_0, sto_1, sto_2, sto_3, sto_4, sto_5, sto_6, sto_7, sto_8, sto_9, sto_10, sto_11, sto_12, sto_13, sto_14, nlo_n, nlo_i, nlo_r, nlo_0, nlo_l, and_self, or_self, Nat.reduceEqDiff, Nat.reduceLT, Nat.reduceLeDiff, Nat.one_ne_zero, Nat.zero_ne_one, w0, f0, r7, m0, q0, a1, a2, e10, kl, kf])
