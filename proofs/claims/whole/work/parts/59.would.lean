/-! Both sides: what would be. -/
variable {h : j_Hd} {M M1 M2 : Nat → Nat → Int32} {E : Nat → Nat} {z : Int32} {K0 K1 : List Int32} {T : Nat → Nat} {W : Nat → Int32}
theorem c120y (hh : Hd h) (hs : CS M 2 E) (h6 : E 0 ≤ 6) {t u : Nat} (ht : t < E 0) (hu : u < E 0) (htu : t ≠ u) {e : Nat} (he : 5 ≤ e) : j_C e 120 [.ref 1, .int (nI t), .int (nI u)] (FS h M) = some (some (.int (nI 1)), FS h M) := by
  obtain ⟨e, rfl⟩ : ∃ d, e = d + 1 := ⟨e - 1, by omega⟩
  have w0 := hh.1.1
  have f0 := hh.1.2.1
  have mk := hh.2.1.1
  have e10 : ¬ nI 1 = nI 0 := by decide +kernel
  have k8 := c8ye (M := M) mk hs h6 ht (e := e) (by omega)
  have k9 := c8ye (M := M) mk hs h6 hu (e := e) (by omega)
  rw [j_C_eq]
  simp (disch := omega) only [st_120_0, st_120_1, st_120_4, st_120_5, st_120_8, st_120_11, st_120_12, st_120_15, st_120_16, st_120_19, st_120_22, st_120_23, st_120_24, st_120_27, st_120_28, st_120_31, st_120_32, ini_120, fs_cl, fs_len, fs_rf, fs_M, fs_put, fs_cpy, ↓reduceIte, rv_ref, true_or, or_true, true_and, and_true, nI_ltI, ix_nI, nI_clamp, ps_i, ps_n, Option.bind_some, sm_0, sm_1, sm_2, sm_3, sm_4, sto_0, sto_1, sto_2, sto_3, sto_4, sto_5, sto_6, sto_7, sto_8, sto_9, sto_10, sto_11, sto_12, sto_13, sto_14, nlo_n, nlo_i, nlo_r, nlo_0, nlo_l, and_self, or_self, Nat.reduceEqDiff, Nat.reduceLT, Nat.reduceLeDiff, Nat.one_ne_zero, Nat.zero_ne_one, w0, f0, mk.1, e10, k8, k9, nI_eq, htu]
theorem c120n (hh : Hd h) (hs : CS M 2 E) (h6 : E 0 ≤ 6) {x y : Int32} (hn : ¬ ((∃ j, j < E 0 ∧ x = nI j) ∧ (∃ j, j < E 0 ∧ y = nI j) ∧ x ≠ y)) {e : Nat} (he : 5 ≤ e) : j_C e 120 [.ref 1, .int x, .int y] (FS h M) = some (some (.int (nI 0)), FS h M) := by
  obtain ⟨e, rfl⟩ : ∃ d, e = d + 1 := ⟨e - 1, by omega⟩
  have w0 := hh.1.1
  have f0 := hh.1.2.1
  have mk := hh.2.1.1
  have e10 : ¬ nI 1 = nI 0 := by decide +kernel
  rw [j_C_eq]
  by_cases hx : ∃ j, j < E 0 ∧ x = nI j
  · have hx' := hx
    obtain ⟨t, ht, rfl⟩ := hx'
    have k8 := c8ye (M := M) mk hs h6 ht (e := e) (by omega)
    by_cases hy : ∃ j, j < E 0 ∧ y = nI j
    · have hy' := hy
      obtain ⟨u, hu, rfl⟩ := hy'
      have k9 := c8ye (M := M) mk hs h6 hu (e := e) (by omega)
      have c1 : nI t = nI u := Decidable.byContradiction (fun c => hn ⟨hx, hy, c⟩)
      simp (disch := omega) only [st_120_0, st_120_1, st_120_4, st_120_5, st_120_8, st_120_11, st_120_12, st_120_15, st_120_16, st_120_19, st_120_22, st_120_23, st_120_24, st_120_27, st_120_28, st_120_31, st_120_32, ini_120, fs_cl, fs_len, fs_rf, fs_M, fs_put, fs_cpy, ↓reduceIte, rv_ref, true_or, or_true, true_and, and_true, nI_ltI, ix_nI, nI_clamp, ps_i, ps_n, Option.bind_some, sm_0, sm_1, sm_2, sm_3, sm_4, sto_0, sto_1, sto_2, sto_3, sto_4, sto_5, sto_6, sto_7, sto_8, sto_9, sto_10, sto_11, sto_12, sto_13, sto_14, nlo_n, nlo_i, nlo_r, nlo_0, nlo_l, and_self, or_self, Nat.reduceEqDiff, Nat.reduceLT, Nat.reduceLeDiff, Nat.one_ne_zero, Nat.zero_ne_one, w0, f0, mk.1, e10, k8, k9, eq_true c1]
    · have k9 := c8ne (M := M) mk hs h6 hy (e := e) (by omega)
      simp (disch := omega) only [st_120_0, st_120_1, st_120_4, st_120_5, st_120_8, st_120_11, st_120_12, st_120_15, st_120_16, st_120_19, st_120_22, st_120_23, st_120_24, st_120_27, st_120_28, st_120_31, st_120_32, ini_120, fs_cl, fs_len, fs_rf, fs_M, fs_put, fs_cpy, ↓reduceIte, rv_ref, true_or, or_true, true_and, and_true, nI_ltI, ix_nI, nI_clamp, ps_i, ps_n, Option.bind_some, sm_0, sm_1, sm_2, sm_3, sm_4, sto_0, sto_1, sto_2, sto_3, sto_4, sto_5, sto_6, sto_7, sto_8, sto_9, sto_10, sto_11, sto_12, sto_13, sto_14, nlo_n, nlo_i, nlo_r, nlo_0, nlo_l, and_self, or_self, Nat.reduceEqDiff, Nat.reduceLT, Nat.reduceLeDiff, Nat.one_ne_zero, Nat.zero_ne_one, w0, f0, mk.1, e10, k8, k9]
  · have k8 := c8ne (M := M) mk hs h6 hx (e := e) (by omega)
    simp (disch := omega) only [st_120_0, st_120_1, st_120_4, st_120_5, st_120_8, st_120_11, st_120_12, st_120_15, st_120_16, st_120_19, st_120_22, st_120_23, st_120_24, st_120_27, st_120_28, st_120_31, st_120_32, ini_120, fs_cl, fs_len, fs_rf, fs_M, fs_put, fs_cpy, ↓reduceIte, rv_ref, true_or, or_true, true_and, and_true, nI_ltI, ix_nI, nI_clamp, ps_i, ps_n, Option.bind_some, sm_0, sm_1, sm_2, sm_3, sm_4, sto_0, sto_1, sto_2, sto_3, sto_4, sto_5, sto_6, sto_7, sto_8, sto_9, sto_10, sto_11, sto_12, sto_13, sto_14, nlo_n, nlo_i, nlo_r, nlo_0, nlo_l, and_self, or_self, Nat.reduceEqDiff, Nat.reduceLT, Nat.reduceLeDiff, Nat.one_ne_zero, Nat.zero_ne_one, w0, f0, mk.1, e10, k8]
theorem g_worst (hh : Hd h) (hi : IE M E z K0 K1 T W) (x y : Int32) : Go h M 96 192 [.int x, .int y] := by
  have w0 := hh.1.1
  have f0 := hh.1.2.1
  have r7 := hh.1.2.2.2.2.2.2.2.1
  have mk := hh.2.1.1
  have th := hh.2.2.2.1.1
  have md : Md h 115 := hh.2.2.2.2.2.2.2.1
  have m0 := md.1
  have q0 := md.2.1.1
  have a1 := md.2.1.2.1
  have a2 := md.2.1.2.2.1
  have hw := hi.1.1
  have h6 := hw.1
  have h8 := hw.2.1
  have hm := hi.2.1.1
  have hs := hm.1
  have hR : RC M 115 E z K0 K1 := hi.2.2.1.1
  have sd := hi.2.2.2.1
  have e10 : ¬ nI 1 = nI 0 := by decide +kernel
  by_cases hv : (∃ j, j < E 0 ∧ x = nI j) ∧ (∃ j, j < E 0 ∧ y = nI j) ∧ x ≠ y
  · obtain ⟨⟨t, ht, rfl⟩, ⟨u, hu, rfl⟩, hne⟩ := hv
    have htu : t ≠ u := fun e => hne (by rw [e])
    have kc := fun M' (hs' : CS M' 2 E) e (he : 5 ≤ e) => c120y (M := M') hh hs' h6 ht hu htu (e := e) he
    cases hq : lwS E K0 t u (E 1) with
    | none =>
      refine go_f hi (k := 2) ?_
      intro e he
      obtain ⟨e, rfl⟩ : ∃ d, e = d + 1 := ⟨e - 1, by omega⟩
      obtain ⟨M1, p1, p2⟩ := c59e th mk hm hw ht hu (e := e) (by omega)
      have hR1 := RC_fc (k := 2) (RC_cq (cq_sg p2) hR)
      obtain ⟨M2, s1, s2⟩ := r192 md hR1 hw ht hu htu (e := e + 1) (by omega)
      rw [hq] at p1 s2
      refine ⟨M1, M2, ?_, cq_sg p2, Sd_sg p2 sd, s2, rg_wf s1, RC_wf s1 hR1⟩
      have kf := c119 (M := M1) hh (k := 2) (by omega) (e := e) (by omega)
      have k1 := kc M hs e (by omega)
      have em : (-1 : Int32) < nI 0 := by decide +kernel
      simp only [lwV] at p1
      (rw [j_C_eq]; simp (disch := omega) only [st_96_0, st_96_1, st_96_2, st_96_3, st_96_6, st_96_9, st_96_10, st_96_11, st_96_14, st_96_15, st_96_16, st_96_19, st_96_20, st_96_23, st_96_24, st_96_25, st_96_28, st_96_29, st_96_30, st_96_33, st_96_34, st_96_35, st_96_38, st_96_41, st_96_42, ini_96, fs_cl, fs_len, fs_rf, fs_M, fs_put, fs_cpy, ↓reduceIte, rv_ref, true_or, or_true, true_and, and_true, nI_ltI, ix_nI, nI_clamp, ps_i, ps_n, Option.bind_some, sm_0, sm_1, sm_2, sm_3, sm_4, sto_0, sto_1, sto_2, sto_3, sto_4, sto_5, sto_6, sto_7, sto_8, sto_9, sto_10, sto_11, sto_12, sto_13, sto_14, nlo_n, nlo_i, nlo_r, nlo_0, nlo_l, and_self, or_self, Nat.reduceEqDiff, Nat.reduceLT, Nat.reduceLeDiff, Nat.one_ne_zero, Nat.zero_ne_one, w0, f0, r7, m0, q0, a1, a2, e10, th.1, k1, p1, em, kf])
    | some v =>
      refine go_q hi ?_
      intro e he
      obtain ⟨e, rfl⟩ : ∃ d, e = d + 1 := ⟨e - 1, by omega⟩
      obtain ⟨M1, p1, p2⟩ := c59e th mk hm hw ht hu (e := e) (by omega)
      have hR1 := RC_cq (cq_sg p2) hR
      obtain ⟨M2, s1, s2⟩ := r192 md hR1 hw ht hu htu (e := e + 1) (by omega)
      rw [hq] at p1 s2
      have hv := lwS_lt t u _ v hq
      have ev : ¬ nI v < nI 0 := nI_nlt (Nat.zero_le _) (by omega)
      refine ⟨nI v, M1, M2, ?_, cq_sg p2, Sd_sg p2 sd, s2, rg_wf s1, RC_wf s1 hR1⟩
      have k1 := kc M hs e (by omega)
      simp only [lwV] at p1
      (rw [j_C_eq]; simp (disch := omega) only [st_96_0, st_96_1, st_96_2, st_96_3, st_96_6, st_96_9, st_96_10, st_96_11, st_96_14, st_96_15, st_96_16, st_96_19, st_96_20, st_96_23, st_96_24, st_96_25, st_96_28, st_96_29, st_96_30, st_96_33, st_96_34, st_96_35, st_96_38, st_96_41, st_96_42, ini_96, fs_cl, fs_len, fs_rf, fs_M, fs_put, fs_cpy, ↓reduceIte, rv_ref, true_or, or_true, true_and, and_true, nI_ltI, ix_nI, nI_clamp, ps_i, ps_n, Option.bind_some, sm_0, sm_1, sm_2, sm_3, sm_4, sto_0, sto_1, sto_2, sto_3, sto_4, sto_5, sto_6, sto_7, sto_8, sto_9, sto_10, sto_11, sto_12, sto_13, sto_14, nlo_n, nlo_i, nlo_r, nlo_0, nlo_l, and_self, or_self, Nat.reduceEqDiff, Nat.reduceLT, Nat.reduceLeDiff, Nat.one_ne_zero, Nat.zero_ne_one, w0, f0, r7, m0, q0, a1, a2, e10, th.1, k1, p1, ev])
  · refine go_f0 hi (k := 1) ?_
    intro e he
    obtain ⟨e, rfl⟩ : ∃ d, e = d + 1 := ⟨e - 1, by omega⟩
    have k1 := c120n hh hs h6 hv (e := e) (by omega)
    have kf := c119 (M := M) hh (k := 1) (by omega) (e := e) (by omega)
    refine ⟨by (rw [j_C_eq]; simp (disch := omega) only [st_96_0, st_96_1, st_96_2, st_96_3, st_96_6, st_96_9, st_96_10, st_96_11, st_96_14, st_96_15, st_96_16, st_96_19, st_96_20, st_96_23, st_96_24, st_96_25, st_96_28, st_96_29, st_96_30, st_96_33, st_96_34, st_96_35, st_96_38, st_96_41, st_96_42, ini_96, fs_cl, fs_len, fs_rf, fs_M, fs_put, fs_cpy, ↓reduceIte, rv_ref, true_or, or_true, true_and, and_true, nI_ltI, ix_nI, nI_clamp, ps_i, ps_n, Option.bind_some, sm_0, sm_1, sm_2, sm_3, sm_4, sto_0, sto_1, sto_2, sto_3, sto_4, sto_5, sto_6, sto_7, sto_8, sto_9, sto_10, sto_11, sto_12, sto_13, sto_14, nlo_n, nlo_i, nlo_r, nlo_0, nlo_l, and_self, or_self, Nat.reduceEqDiff, Nat.reduceLT, Nat.reduceLeDiff, Nat.one_ne_zero, Nat.zero_ne_one, w0, f0, r7, m0, q0, a1, a2, e10, k1, kf]), fun M' hR' => ?_⟩
    have kf := r142 (M := M') md (k := 1) (by omega) (e := e) (by omega)
    by_cases hx : ∃ j, j < E 0 ∧ x = nI j
    · have hx' := hx
      obtain ⟨t, ht, rfl⟩ := hx'
      have k8 := r145ye md hR'.1 h6 ht (e := e) (by omega)
      by_cases hy : ∃ j, j < E 0 ∧ y = nI j
      · have hy' := hy
        obtain ⟨u, hu, rfl⟩ := hy'
        have k9 := r145ye md hR'.1 h6 hu (e := e) (by omega)
        have c1 : nI t = nI u := Decidable.byContradiction (fun c => hv ⟨hx, hy, c⟩)
        (rw [j_C_eq]; simp (disch := omega) only [st_192_0, st_192_1, st_192_2, st_192_5, st_192_8, st_192_9, st_192_10, st_192_13, st_192_16, st_192_17, st_192_18, st_192_21, st_192_22, st_192_23, st_192_26, st_192_27, st_192_28, st_192_29, st_192_30, st_192_32, st_192_33, st_192_37, st_192_38, st_192_41, st_192_42, st_192_43, st_192_46, st_192_47, st_192_49, st_192_50, st_192_53, st_192_54, st_192_57, st_192_58, st_192_60, st_192_61, st_192_64, st_192_67, st_192_68, st_192_71, st_192_72, st_192_74, st_192_75, st_192_78, st_192_80, st_192_83, st_192_85, st_192_86, st_192_87, st_192_89, st_192_90, st_192_93, st_192_95, st_192_98, st_192_101, st_192_102, st_192_105, st_192_106, st_192_107, st_192_110, st_192_113, st_192_114, ini_192, fs_cl, fs_len, fs_rf, fs_M, fs_put, fs_cpy, ↓reduceIte, rv_ref, true_or, or_true, true_and, and_true, nI_ltI, ix_nI, nI_clamp, ps_i, ps_n, Option.bind_some, sm_0, sm_1, sm_2, sm_3, sm_4, sto_0, sto_1, sto_2, sto_3, sto_4, sto_5, sto_6, sto_7, sto_8, sto_9, sto_10, sto_11, sto_12, sto_13, sto_14, nlo_n, nlo_i, nlo_r, nlo_0, nlo_l, and_self, or_self, Nat.reduceEqDiff, Nat.reduceLT, Nat.reduceLeDiff, Nat.one_ne_zero, Nat.zero_ne_one, w0, f0, r7, m0, q0, a1, a2, e10, k8, k9, eq_true c1, kf])
      · have k9 := r145ne md hR'.1 h6 hy (e := e) (by omega)
        (rw [j_C_eq]; simp (disch := omega) only [st_192_0, st_192_1, st_192_2, st_192_5, st_192_8, st_192_9, st_192_10, st_192_13, st_192_16, st_192_17, st_192_18, st_192_21, st_192_22, st_192_23, st_192_26, st_192_27, st_192_28, st_192_29, st_192_30, st_192_32, st_192_33, st_192_37, st_192_38, st_192_41, st_192_42, st_192_43, st_192_46, st_192_47, st_192_49, st_192_50, st_192_53, st_192_54, st_192_57, st_192_58, st_192_60, st_192_61, st_192_64, st_192_67, st_192_68, st_192_71, st_192_72, st_192_74, st_192_75, st_192_78, st_192_80, st_192_83, st_192_85, st_192_86, st_192_87, st_192_89, st_192_90, st_192_93, st_192_95, st_192_98, st_192_101, st_192_102, st_192_105, st_192_106, st_192_107, st_192_110, st_192_113, st_192_114, ini_192, fs_cl, fs_len, fs_rf, fs_M, fs_put, fs_cpy, ↓reduceIte, rv_ref, true_or, or_true, true_and, and_true, nI_ltI, ix_nI, nI_clamp, ps_i, ps_n, Option.bind_some, sm_0, sm_1, sm_2, sm_3, sm_4, sto_0, sto_1, sto_2, sto_3, sto_4, sto_5, sto_6, sto_7, sto_8, sto_9, sto_10, sto_11, sto_12, sto_13, sto_14, nlo_n, nlo_i, nlo_r, nlo_0, nlo_l, and_self, or_self, Nat.reduceEqDiff, Nat.reduceLT, Nat.reduceLeDiff, Nat.one_ne_zero, Nat.zero_ne_one, w0, f0, r7, m0, q0, a1, a2, e10, k8, k9, kf])
    · have k8 := r145ne md hR'.1 h6 hx (e := e) (by omega)
      (rw [j_C_eq]; simp (disch := omega) only [st_192_0, st_192_1, st_192_2, st_192_5, st_192_8, st_192_9, st_192_10, st_192_13, st_192_16, st_192_17, st_192_18, st_192_21, st_192_22, st_192_23, st_192_26, st_192_27, st_192_28, st_192_29, st_192_30, st_192_32, st_192_33, st_192_37, st_192_38, st_192_41, st_192_42, st_192_43, st_192_46, st_192_47, st_192_49, st_192_50, st_192_53, st_192_54, st_192_57, st_192_58, st_192_60, st_192_61, st_192_64, st_192_67, st_192_68, st_192_71, st_192_72, st_192_74, st_192_75, st_192_78, st_192_80, st_192_83, st_192_85, st_192_86, st_192_87, st_192_89, st_192_90, st_192_93, st_192_95, st_192_98, st_192_101, st_192_102, st_192_105, st_192_106, st_192_107, st_192_110, st_192_113, st_192_114, ini_192, fs_cl, fs_len, fs_rf, fs_M, fs_put, fs_cpy, ↓reduceIte, rv_ref, true_or, or_true, true_and, and_true, nI_ltI, ix_nI, nI_clamp, ps_i, ps_n, Option.bind_some, sm_0, sm_1, sm_2, sm_3, sm_4, sto_0, sto_1, sto_2, sto_3, sto_4, sto_5, sto_6, sto_7, sto_8, sto_9, sto_10, sto_11, sto_12, sto_13, sto_14, nlo_n, nlo_i, nlo_r, nlo_0, nlo_l, and_self, or_self, Nat.reduceEqDiff, Nat.reduceLT, Nat.reduceLeDiff, Nat.one_ne_zero, Nat.zero_ne_one, w0, f0, r7, m0, q0, a1, a2, e10, k8, kf])
theorem g_pays (hh : Hd h) (hi : IE M E z K0 K1 T W) (x y v : Int32) : Go h M 97 194 [.int x, .int y, .int v] := by
  have w0 := hh.1.1
  have f0 := hh.1.2.1
  have r7 := hh.1.2.2.2.2.2.2.2.1
  have mk := hh.2.1.1
  have th := hh.2.2.2.1.1
  have md : Md h 115 := hh.2.2.2.2.2.2.2.1
  have m0 := md.1
  have q0 := md.2.1.1
  have a1 := md.2.1.2.1
  have a2 := md.2.1.2.2.1
  have hw := hi.1.1
  have h6 := hw.1
  have h8 := hw.2.1
  have hm := hi.2.1.1
  have hs := hm.1
  have hR : RC M 115 E z K0 K1 := hi.2.2.1.1
  have sd := hi.2.2.2.1
  have e10 : ¬ nI 1 = nI 0 := by decide +kernel
  by_cases hv : (∃ j, j < E 0 ∧ x = nI j) ∧ (∃ j, j < E 0 ∧ y = nI j) ∧ x ≠ y
  · obtain ⟨⟨t, ht, rfl⟩, ⟨u, hu, rfl⟩, hne⟩ := hv
    have htu : t ≠ u := fun e => hne (by rw [e])
    have kc := fun M' (hs' : CS M' 2 E) e (he : 5 ≤ e) => c120y (M := M') hh hs' h6 ht hu htu (e := e) he
    by_cases hx : ∃ j, 1 ≤ j ∧ j ≤ 999 ∧ v = nI j
    · obtain ⟨S, hS1, hS, rfl⟩ := hx
      have wi1 := wi_in hS1 hS (by omega : 999 < 2147483648)
      have cq1 : ∀ M1, pg 64 2 M M1 → cq M M1 := fun M1 p2 x hx => p2 x (by omega) (by omega) (by omega) (by omega) (by omega) (by omega)
      by_cases hq : pyS (pw E K0 t u) (E 1) S (2 ^ E 1 - 1) 1 0 = 0
      · refine go_f hi (k := 2) ?_
        intro e he
        obtain ⟨e, rfl⟩ : ∃ d, e = d + 1 := ⟨e - 1, by omega⟩
        obtain ⟨M1, p1, p2⟩ := c60e th mk (by omega) hm hw ht hu (by omega : S < 1000) (e := e) (by omega)
        have hR1 := RC_fc (k := 2) (RC_cq (cq1 _ p2) hR)
        obtain ⟨M2, s1, s2⟩ := r194 md hR1 hw ht hu htu hS1 hS (e := e + 1) (by omega)
        rw [if_pos hq] at s2
        rw [hq] at p1
        refine ⟨M1, M2, ?_, cq1 _ p2, Sd_cg (p2 81 (by omega) (by omega) (by omega) (by omega) (by omega) (by omega)) sd, s2, rg_wf s1, RC_wf s1 hR1⟩
        have kf := c119 (M := M1) hh (k := 2) (by omega) (e := e) (by omega)
        have k1 := kc M hs e (by omega)
        have kw := c122e (σ := FS h M) (nI S) (nI 1) (nI 999) (e := e) (by omega)
        rw [wi1] at kw
        (rw [j_C_eq]; simp (disch := omega) only [st_97_0, st_97_1, st_97_2, st_97_3, st_97_6, st_97_9, st_97_10, st_97_11, st_97_14, st_97_17, st_97_20, st_97_21, st_97_22, st_97_25, st_97_26, st_97_27, st_97_30, st_97_31, st_97_34, st_97_35, st_97_36, st_97_37, st_97_40, st_97_42, st_97_44, st_97_47, st_97_48, st_97_49, st_97_52, st_97_55, st_97_57, ini_97, fs_cl, fs_len, fs_rf, fs_M, fs_put, fs_cpy, ↓reduceIte, rv_ref, true_or, or_true, true_and, and_true, nI_ltI, ix_nI, nI_clamp, ps_i, ps_n, Option.bind_some, sm_0, sm_1, sm_2, sm_3, sm_4, sto_0, sto_1, sto_2, sto_3, sto_4, sto_5, sto_6, sto_7, sto_8, sto_9, sto_10, sto_11, sto_12, sto_13, sto_14, nlo_n, nlo_i, nlo_r, nlo_0, nlo_l, and_self, or_self, Nat.reduceEqDiff, Nat.reduceLT, Nat.reduceLeDiff, Nat.one_ne_zero, Nat.zero_ne_one, w0, f0, r7, m0, q0, a1, a2, e10, th.1, k1, kw, p1, kf])
      · refine go_q hi ?_
        intro e he
        obtain ⟨e, rfl⟩ : ∃ d, e = d + 1 := ⟨e - 1, by omega⟩
        obtain ⟨M1, p1, p2⟩ := c60e th mk (by omega) hm hw ht hu (by omega : S < 1000) (e := e) (by omega)
        have hR1 := RC_cq (cq1 _ p2) hR
        obtain ⟨M2, s1, s2⟩ := r194 md hR1 hw ht hu htu hS1 hS (e := e + 1) (by omega)
        rw [if_neg hq] at s2
        have pl : pyS (pw E K0 t u) (E 1) S (2 ^ E 1 - 1) 1 0 < 256 := pyS_lt _ _ _ (by omega) (by have := p256 h8; have := Nat.pow_pos (n := E 1) (show 0 < 2 by omega); omega)
        have ev : ¬ nI (pyS (pw E K0 t u) (E 1) S (2 ^ E 1 - 1) 1 0) = nI 0 := nI_ne hq (by omega) (by omega)
        refine ⟨nI (pyS (pw E K0 t u) (E 1) S (2 ^ E 1 - 1) 1 0), M1, M2, ?_, cq1 _ p2, Sd_cg (p2 81 (by omega) (by omega) (by omega) (by omega) (by omega) (by omega)) sd, s2, rg_wf s1, RC_wf s1 hR1⟩
        have k1 := kc M hs e (by omega)
        have kw := c122e (σ := FS h M) (nI S) (nI 1) (nI 999) (e := e) (by omega)
        rw [wi1] at kw
        (rw [j_C_eq]; simp (disch := omega) only [st_97_0, st_97_1, st_97_2, st_97_3, st_97_6, st_97_9, st_97_10, st_97_11, st_97_14, st_97_17, st_97_20, st_97_21, st_97_22, st_97_25, st_97_26, st_97_27, st_97_30, st_97_31, st_97_34, st_97_35, st_97_36, st_97_37, st_97_40, st_97_42, st_97_44, st_97_47, st_97_48, st_97_49, st_97_52, st_97_55, st_97_57, ini_97, fs_cl, fs_len, fs_rf, fs_M, fs_put, fs_cpy, ↓reduceIte, rv_ref, true_or, or_true, true_and, and_true, nI_ltI, ix_nI, nI_clamp, ps_i, ps_n, Option.bind_some, sm_0, sm_1, sm_2, sm_3, sm_4, sto_0, sto_1, sto_2, sto_3, sto_4, sto_5, sto_6, sto_7, sto_8, sto_9, sto_10, sto_11, sto_12, sto_13, sto_14, nlo_n, nlo_i, nlo_r, nlo_0, nlo_l, and_self, or_self, Nat.reduceEqDiff, Nat.reduceLT, Nat.reduceLeDiff, Nat.one_ne_zero, Nat.zero_ne_one, w0, f0, r7, m0, q0, a1, a2, e10, th.1, k1, kw, p1, ev])
    · refine go_f0 hi (k := 1) ?_
      intro e he
      obtain ⟨e, rfl⟩ : ∃ d, e = d + 1 := ⟨e - 1, by omega⟩
      have k1 := kc M hs e (by omega)
      have kf := c119 (M := M) hh (k := 1) (by omega) (e := e) (by omega)
      have kw := c122e (σ := FS h M) v (nI 1) (nI 999) (e := e) (by omega)
      rw [wi_out hx (by omega) (by omega)] at kw
      refine ⟨by (rw [j_C_eq]; simp (disch := omega) only [st_97_0, st_97_1, st_97_2, st_97_3, st_97_6, st_97_9, st_97_10, st_97_11, st_97_14, st_97_17, st_97_20, st_97_21, st_97_22, st_97_25, st_97_26, st_97_27, st_97_30, st_97_31, st_97_34, st_97_35, st_97_36, st_97_37, st_97_40, st_97_42, st_97_44, st_97_47, st_97_48, st_97_49, st_97_52, st_97_55, st_97_57, ini_97, fs_cl, fs_len, fs_rf, fs_M, fs_put, fs_cpy, ↓reduceIte, rv_ref, true_or, or_true, true_and, and_true, nI_ltI, ix_nI, nI_clamp, ps_i, ps_n, Option.bind_some, sm_0, sm_1, sm_2, sm_3, sm_4, sto_0, sto_1, sto_2, sto_3, sto_4, sto_5, sto_6, sto_7, sto_8, sto_9, sto_10, sto_11, sto_12, sto_13, sto_14, nlo_n, nlo_i, nlo_r, nlo_0, nlo_l, and_self, or_self, Nat.reduceEqDiff, Nat.reduceLT, Nat.reduceLeDiff, Nat.one_ne_zero, Nat.zero_ne_one, w0, f0, r7, m0, q0, a1, a2, e10, k1, kw, kf]), fun M' hR' => ?_⟩
      have kf := r142 (M := M') md (k := 1) (by omega) (e := e) (by omega)
      have k8 := r145ye md hR'.1 h6 ht (e := e) (by omega)
      have k9 := r145ye md hR'.1 h6 hu (e := e) (by omega)
      have kw := r143e (σ := FS h M') v.toInt64 (lN 1) (lN 999) (e := e) (by omega)
      rw [lin_out hx (by omega) (by omega)] at kw
      (rw [j_C_eq]; simp (disch := omega) only [st_194_0, st_194_1, st_194_2, st_194_5, st_194_8, st_194_9, st_194_10, st_194_13, st_194_16, st_194_17, st_194_18, st_194_21, st_194_22, st_194_23, st_194_24, st_194_27, st_194_30, st_194_33, st_194_34, st_194_35, st_194_38, st_194_39, st_194_40, st_194_41, st_194_44, st_194_46, st_194_47, st_194_49, st_194_50, st_194_54, st_194_55, st_194_56, st_194_59, st_194_60, st_194_61, st_194_62, st_194_65, st_194_67, st_194_69, st_194_70, st_194_71, st_194_72, st_194_75, st_194_77, st_194_80, st_194_82, st_194_85, st_194_87, st_194_90, st_194_93, st_194_94, st_194_97, st_194_98, st_194_100, st_194_101, st_194_103, st_194_104, st_194_108, st_194_109, st_194_112, st_194_113, st_194_114, st_194_117, st_194_119, st_194_122, st_194_124, st_194_126, st_194_127, st_194_128, st_194_129, st_194_130, st_194_133, st_194_134, st_194_136, st_194_137, st_194_140, st_194_142, st_194_144, st_194_147, st_194_148, st_194_151, st_194_152, st_194_154, st_194_156, st_194_158, st_194_159, st_194_161, st_194_164, st_194_167, st_194_169, st_194_172, st_194_174, st_194_175, st_194_178, st_194_180, st_194_183, st_194_185, st_194_187, st_194_190, st_194_193, st_194_195, st_194_198, st_194_199, st_194_200, st_194_203, st_194_206, st_194_208, ini_194, fs_cl, fs_len, fs_rf, fs_M, fs_put, fs_cpy, ↓reduceIte, rv_ref, true_or, or_true, true_and, and_true, nI_ltI, ix_nI, nI_clamp, ps_i, ps_n, Option.bind_some, sm_0, sm_1, sm_2, sm_3, sm_4, sto_0, sto_1, sto_2, sto_3, sto_4, sto_5, sto_6, sto_7, sto_8, sto_9, sto_10, sto_11, sto_12, sto_13, sto_14, nlo_n, nlo_i, nlo_r, nlo_0, nlo_l, and_self, or_self, Nat.reduceEqDiff, Nat.reduceLT, Nat.reduceLeDiff, Nat.one_ne_zero, Nat.zero_ne_one, w0, f0, r7, m0, q0, a1, a2, e10, k8, k9, nI_eq, htu, kw, kf])
  · refine go_f0 hi (k := 1) ?_
    intro e he
    obtain ⟨e, rfl⟩ : ∃ d, e = d + 1 := ⟨e - 1, by omega⟩
    have k1 := c120n hh hs h6 hv (e := e) (by omega)
    have kf := c119 (M := M) hh (k := 1) (by omega) (e := e) (by omega)
    refine ⟨by (rw [j_C_eq]; simp (disch := omega) only [st_97_0, st_97_1, st_97_2, st_97_3, st_97_6, st_97_9, st_97_10, st_97_11, st_97_14, st_97_17, st_97_20, st_97_21, st_97_22, st_97_25, st_97_26, st_97_27, st_97_30, st_97_31, st_97_34, st_97_35, st_97_36, st_97_37, st_97_40, st_97_42, st_97_44, st_97_47, st_97_48, st_97_49, st_97_52, st_97_55, st_97_57, ini_97, fs_cl, fs_len, fs_rf, fs_M, fs_put, fs_cpy, ↓reduceIte, rv_ref, true_or, or_true, true_and, and_true, nI_ltI, ix_nI, nI_clamp, ps_i, ps_n, Option.bind_some, sm_0, sm_1, sm_2, sm_3, sm_4, sto_0, sto_1, sto_2, sto_3, sto_4, sto_5, sto_6, sto_7, sto_8, sto_9, sto_10, sto_11, sto_12, sto_13, sto_14, nlo_n, nlo_i, nlo_r, nlo_0, nlo_l, and_self, or_self, Nat.reduceEqDiff, Nat.reduceLT, Nat.reduceLeDiff, Nat.one_ne_zero, Nat.zero_ne_one, w0, f0, r7, m0, q0, a1, a2, e10, k1, kf]), fun M' hR' => ?_⟩
    have kf := r142 (M := M') md (k := 1) (by omega) (e := e) (by omega)
    by_cases hx : ∃ j, j < E 0 ∧ x = nI j
    · have hx' := hx
      obtain ⟨t, ht, rfl⟩ := hx'
      have k8 := r145ye md hR'.1 h6 ht (e := e) (by omega)
      by_cases hy : ∃ j, j < E 0 ∧ y = nI j
      · have hy' := hy
        obtain ⟨u, hu, rfl⟩ := hy'
        have k9 := r145ye md hR'.1 h6 hu (e := e) (by omega)
        have c1 : nI t = nI u := Decidable.byContradiction (fun c => hv ⟨hx, hy, c⟩)
        (rw [j_C_eq]; simp (disch := omega) only [st_194_0, st_194_1, st_194_2, st_194_5, st_194_8, st_194_9, st_194_10, st_194_13, st_194_16, st_194_17, st_194_18, st_194_21, st_194_22, st_194_23, st_194_24, st_194_27, st_194_30, st_194_33, st_194_34, st_194_35, st_194_38, st_194_39, st_194_40, st_194_41, st_194_44, st_194_46, st_194_47, st_194_49, st_194_50, st_194_54, st_194_55, st_194_56, st_194_59, st_194_60, st_194_61, st_194_62, st_194_65, st_194_67, st_194_69, st_194_70, st_194_71, st_194_72, st_194_75, st_194_77, st_194_80, st_194_82, st_194_85, st_194_87, st_194_90, st_194_93, st_194_94, st_194_97, st_194_98, st_194_100, st_194_101, st_194_103, st_194_104, st_194_108, st_194_109, st_194_112, st_194_113, st_194_114, st_194_117, st_194_119, st_194_122, st_194_124, st_194_126, st_194_127, st_194_128, st_194_129, st_194_130, st_194_133, st_194_134, st_194_136, st_194_137, st_194_140, st_194_142, st_194_144, st_194_147, st_194_148, st_194_151, st_194_152, st_194_154, st_194_156, st_194_158, st_194_159, st_194_161, st_194_164, st_194_167, st_194_169, st_194_172, st_194_174, st_194_175, st_194_178, st_194_180, st_194_183, st_194_185, st_194_187, st_194_190, st_194_193, st_194_195, st_194_198, st_194_199, st_194_200, st_194_203, st_194_206, st_194_208, ini_194, fs_cl, fs_len, fs_rf, fs_M, fs_put, fs_cpy, ↓reduceIte, rv_ref, true_or, or_true, true_and, and_true, nI_ltI, ix_nI, nI_clamp, ps_i, ps_n, Option.bind_some, sm_0, sm_1, sm_2, sm_3, sm_4, sto_0, sto_1, sto_2, sto_3, sto_4, sto_5, sto_6, sto_7, sto_8, sto_9, sto_10, sto_11, sto_12, sto_13, sto_14, nlo_n, nlo_i, nlo_r, nlo_0, nlo_l, and_self, or_self, Nat.reduceEqDiff, Nat.reduceLT, Nat.reduceLeDiff, Nat.one_ne_zero, Nat.zero_ne_one, w0, f0, r7, m0, q0, a1, a2, e10, k8, k9, eq_true c1, kf])
      · have k9 := r145ne md hR'.1 h6 hy (e := e) (by omega)
        (rw [j_C_eq]; simp (disch := omega) only [st_194_0, st_194_1, st_194_2, st_194_5, st_194_8, st_194_9, st_194_10, st_194_13, st_194_16, st_194_17, st_194_18, st_194_21, st_194_22, st_194_23, st_194_24, st_194_27, st_194_30, st_194_33, st_194_34, st_194_35, st_194_38, st_194_39, st_194_40, st_194_41, st_194_44, st_194_46, st_194_47, st_194_49, st_194_50, st_194_54, st_194_55, st_194_56, st_194_59, st_194_60, st_194_61, st_194_62, st_194_65, st_194_67, st_194_69, st_194_70, st_194_71, st_194_72, st_194_75, st_194_77, st_194_80, st_194_82, st_194_85, st_194_87, st_194_90, st_194_93, st_194_94, st_194_97, st_194_98, st_194_100, st_194_101, st_194_103, st_194_104, st_194_108, st_194_109, st_194_112, st_194_113, st_194_114, st_194_117, st_194_119, st_194_122, st_194_124, st_194_126, st_194_127, st_194_128, st_194_129, st_194_130, st_194_133, st_194_134, st_194_136, st_194_137, st_194_140, st_194_142, st_194_144, st_194_147, st_194_148, st_194_151, st_194_152, st_194_154, st_194_156, st_194_158, st_194_159, st_194_161, st_194_164, st_194_167, st_194_169, st_194_172, st_194_174, st_194_175, st_194_178, st_194_180, st_194_183, st_194_185, st_194_187, st_194_190, st_194_193, st_194_195, st_194_198, st_194_199, st_194_200, st_194_203, st_194_206, st_194_208, ini_194, fs_cl, fs_len, fs_rf, fs_M, fs_put, fs_cpy, ↓reduceIte, rv_ref, true_or, or_true, true_and, and_true, nI_ltI, ix_nI, nI_clamp, ps_i, ps_n, Option.bind_some, sm_0, sm_1, sm_2, sm_3, sm_4, sto_0, sto_1, sto_2, sto_3, sto_4, sto_5, sto_6, sto_7, sto_8, sto_9, sto_10, sto_11, sto_12, sto_13, sto_14, nlo_n, nlo_i, nlo_r, nlo_0, nlo_l, and_self, or_self, Nat.reduceEqDiff, Nat.reduceLT, Nat.reduceLeDiff, Nat.one_ne_zero, Nat.zero_ne_one, w0, f0, r7, m0, q0, a1, a2, e10, k8, k9, kf])
    · have k8 := r145ne md hR'.1 h6 hx (e := e) (by omega)
      (rw [j_C_eq]; simp (disch := omega) only [st_194_0, st_194_1, st_194_2, st_194_5, st_194_8, st_194_9, st_194_10, st_194_13, st_194_16, st_194_17, st_194_18, st_194_21, st_194_22, st_194_23, st_194_24, st_194_27, st_194_30, st_194_33, st_194_34, st_194_35, st_194_38, st_194_39, st_194_40, st_194_41, st_194_44, st_194_46, st_194_47, st_194_49, st_194_50, st_194_54, st_194_55, st_194_56, st_194_59, st_194_60, st_194_61, st_194_62, st_194_65, st_194_67, st_194_69, st_194_70, st_194_71, st_194_72, st_194_75, st_194_77, st_194_80, st_194_82, st_194_85, st_194_87, st_194_90, st_194_93, st_194_94, st_194_97, st_194_98, st_194_100, st_194_101, st_194_103, st_194_104, st_194_108, st_194_109, st_194_112, st_194_113, st_194_114, st_194_117, st_194_119, st_194_122, st_194_124, st_194_126, st_194_127, st_194_128, st_194_129, st_194_130, st_194_133, st_194_134, st_194_136, st_194_137, st_194_140, st_194_142, st_194_144, st_194_147, st_194_148, st_194_151, st_194_152, st_194_154, st_194_156, st_194_158, st_194_159, st_194_161, st_194_164, st_194_167, st_194_169, st_194_172, st_194_174, st_194_175, st_194_178, st_194_180, st_194_183, st_194_185, st_194_187, st_194_190, st_194_193, st_194_195, st_194_198, st_194_199, st_194_200, st_194_203, st_194_206, st_194_208, ini_194, fs_cl, fs_len, fs_rf, fs_M, fs_put, fs_cpy, ↓reduceIte, rv_ref, true_or, or_true, true_and, and_true, nI_ltI, ix_nI, nI_clamp, ps_i, ps_n, Option.bind_some, sm_0, sm_1, sm_2, sm_3, sm_4, sto_0, sto_1, sto_2, sto_3, sto_4, sto_5, sto_6, sto_7, sto_8, sto_9, sto_10, sto_11, sto_12, sto_13, sto_14, nlo_n, nlo_i, nlo_r, nlo_0, nlo_l, and_self, or_self, Nat.reduceEqDiff, Nat.reduceLT, Nat.reduceLeDiff, Nat.one_ne_zero, Nat.zero_ne_one, w0, f0, r7, m0, q0, a1, a2, e10, k8, kf])
theorem wq_in {q : Option Nat} (hq : ∀ k, q = some k → k ≤ 2) : wi (wq q) (-1) (nI 2) = nI 1 ∧ lin (wq q).toInt64 (-1) (lN 2) = nI 1 := by
  cases q with
  | none => exact ⟨by decide +kernel, by decide +kernel⟩
  | some k =>
    have k2 := hq k rfl
    have kk : ∀ k, k ≤ 2 → wi (wq (some k)) (-1) (nI 2) = nI 1 ∧ lin (wq (some k)).toInt64 (-1) (lN 2) = nI 1 := by decide +kernel
    exact kk k k2
theorem wq_out {x : Int32} (hx : ¬ ∃ q : Option Nat, (∀ k, q = some k → k ≤ 2) ∧ x = wq q) : wi x (-1) (nI 2) = nI 0 ∧ lin x.toInt64 (-1) (lN 2) = nI 0 := by
  have em : (-1 : Int32).toInt = -1 := by decide +kernel
  have em2 : (-1 : Int64).toInt = -1 := by decide +kernel
  have hb : x.toInt < -1 ∨ 2 < x.toInt := by
    refine Decidable.byContradiction (fun hh => hx ?_)
    by_cases e0 : x.toInt = -1
    · exact ⟨none, (fun k hk => by cases hk), by rw [← Int32.toInt_inj, e0]; rfl⟩
    · refine ⟨some x.toInt.toNat, (fun k hk => by cases hk; omega), ?_⟩
      show x = nI x.toInt.toNat
      rw [nI_z, Int.toNat_of_nonneg (by omega)]
      exact zI_of x
  constructor
  · unfold wi
    by_cases c1 : x < -1
    · rw [if_pos c1]
    · rw [if_neg c1]
      rw [Int32.lt_iff_toInt_lt, em] at c1
      rw [if_pos (by rw [nlt (by omega)]; omega)]
  · refine lin_n (fun ⟨a, b⟩ => ?_)
    rw [em2, Int32.toInt_toInt64] at a
    rw [lN_t (by omega), Int32.toInt_toInt64] at b
    omega
theorem cq_tg (hg : tg 64 M M1) : cq M M1 := fun x hx => hg x (by omega)
theorem dg_lt {v n k : Nat} (hn : 0 < n) : dg v n k < n := Nat.mod_lt _ hn
theorem g_launder (hh : Hd h) (hi : IE M E z K0 K1 T W) (x y v : Int32) : Go h M 98 196 [.int x, .int y, .int v] := by
  have w0 := hh.1.1
  have f0 := hh.1.2.1
  have r7 := hh.1.2.2.2.2.2.2.2.1
  have mk := hh.2.1.1
  have th := hh.2.2.2.1.1
  have md : Md h 115 := hh.2.2.2.2.2.2.2.1
  have m0 := md.1
  have q0 := md.2.1.1
  have a1 := md.2.1.2.1
  have a2 := md.2.1.2.2.1
  have hw := hi.1.1
  have h6 := hw.1
  have h8 := hw.2.1
  have hm := hi.2.1.1
  have hs := hm.1
  have hR : RC M 115 E z K0 K1 := hi.2.2.1.1
  have sd := hi.2.2.2.1
  have e10 : ¬ nI 1 = nI 0 := by decide +kernel
  by_cases hx : ∃ j, j < E 1 ∧ x = nI j
  · obtain ⟨c, hc, rfl⟩ := hx
    have ch := (hw.2.2.2.2.2.2.2 c hc).2.2.1
    by_cases hy : ∃ p q r, Rw p q r ∧ y = nI (rn p q r)
    · obtain ⟨p, q, r, hr, rfl⟩ := hy
      by_cases hq : ∃ q : Option Nat, (∀ k, q = some k → k ≤ 2) ∧ v = wq q
      · obtain ⟨w, hw2, rfl⟩ := hq
        obtain ⟨q1, q2⟩ := wq_in hw2
        cases hl : ldN E K0 c (rn p q r) (E 0) 4 0 with
        | none =>
          refine go_f hi (k := 2) ?_
          intro e he
          obtain ⟨e, rfl⟩ : ∃ d, e = d + 1 := ⟨e - 1, by omega⟩
          obtain ⟨M1, p1, p2, p3, p4⟩ := c62e th mk (by omega) sd hm hw hc (rn_lt hr) (e := e) (by omega)
          have hR1 := RC_fc (k := 2) (RC_cq (cq_tg p4) hR)
          obtain ⟨M2, s1, s2, s3⟩ := r196 md hR1 hw hc hr hw2 (e := e + 1) (by omega)
          rw [hl] at p1 s3
          simp only at p1 s3
          refine ⟨M1, M2, ?_, cq_tg p4, p3, s3, s2, s1⟩
          have kf := c119 (M := M1) hh (k := 2) (by omega) (e := e) (by omega)
          have k9 := c9ye (M := M) mk hs h8 hc (e := e) (by omega)
          have kr := c132ye (σ := FS h M) hr (e := e) (by omega)
          have kw := c128e (σ := FS h M) (wq w) (e := e) (by omega)
          rw [q1] at kw
          have em : (-1 : Int32) < nI 0 := by decide +kernel
          (rw [j_C_eq]; simp (disch := omega) only [st_98_0, st_98_1, st_98_4, st_98_5, st_98_8, st_98_11, st_98_12, st_98_15, st_98_18, st_98_19, st_98_22, st_98_25, st_98_26, st_98_27, st_98_30, st_98_31, st_98_32, st_98_35, st_98_36, st_98_39, st_98_40, st_98_41, st_98_44, st_98_46, st_98_48, st_98_51, st_98_52, st_98_53, st_98_56, st_98_57, st_98_58, st_98_61, st_98_63, st_98_64, st_98_65, st_98_67, st_98_70, st_98_71, st_98_74, st_98_75, st_98_78, st_98_81, st_98_82, ini_98, fs_cl, fs_len, fs_rf, fs_M, fs_put, fs_cpy, ↓reduceIte, rv_ref, true_or, or_true, true_and, and_true, nI_ltI, ix_nI, nI_clamp, ps_i, ps_n, Option.bind_some, sm_0, sm_1, sm_2, sm_3, sm_4, sto_0, sto_1, sto_2, sto_3, sto_4, sto_5, sto_6, sto_7, sto_8, sto_9, sto_10, sto_11, sto_12, sto_13, sto_14, nlo_n, nlo_i, nlo_r, nlo_0, nlo_l, and_self, or_self, Nat.reduceEqDiff, Nat.reduceLT, Nat.reduceLeDiff, Nat.one_ne_zero, Nat.zero_ne_one, w0, f0, r7, m0, q0, a1, a2, e10, mk.1, th.1, k9, kr, kw, p1, em, kf])
        | some sv =>
          obtain ⟨s', v'⟩ := sv
          obtain ⟨l1, l2⟩ := ldN_lt _ _ _ _ hl
          have pl : E 0 ^ s' ≤ 216 := by
            have e1 := Nat.pow_le_pow_left h6 s'
            have e2 := Nat.pow_le_pow_right (show 0 < 6 by omega) (show s' ≤ 3 by omega)
            omega
          refine go_q hi ?_
          intro e he
          obtain ⟨e, rfl⟩ : ∃ d, e = d + 1 := ⟨e - 1, by omega⟩
          obtain ⟨M1, p1, p2, p3, p4⟩ := c62e th mk (by omega) sd hm hw hc (rn_lt hr) (e := e) (by omega)
          have hR1 := RC_cq (cq_tg p4) hR
          obtain ⟨M2, s1, s2, s3⟩ := r196 md hR1 hw hc hr hw2 (e := e + 1) (by omega)
          rw [hl] at p1 s3
          simp only at p1 s3
          refine ⟨lqA v' (E 0) s' w, M1, M2, ?_, cq_tg p4, p3, s3, s2, s1⟩
          have fdt := p2 s' v' hl
          have k9 := c9ye (M := M) mk hs h8 hc (e := e) (by omega)
          have kr := c132ye (σ := FS h M) hr (e := e) (by omega)
          have kw := c128e (σ := FS h M) (wq w) (e := e) (by omega)
          rw [q1] at kw
          have es : ¬ nI s' < nI 0 := nI_nlt (Nat.zero_le _) (by omega)
          cases w with
          | none =>
            have em : (-1 : Int32) < nI 0 := by decide +kernel
            simp only [wq] at kw
            simp only [wq, lqA]
            (rw [j_C_eq]; simp (disch := omega) only [st_98_0, st_98_1, st_98_4, st_98_5, st_98_8, st_98_11, st_98_12, st_98_15, st_98_18, st_98_19, st_98_22, st_98_25, st_98_26, st_98_27, st_98_30, st_98_31, st_98_32, st_98_35, st_98_36, st_98_39, st_98_40, st_98_41, st_98_44, st_98_46, st_98_48, st_98_51, st_98_52, st_98_53, st_98_56, st_98_57, st_98_58, st_98_61, st_98_63, st_98_64, st_98_65, st_98_67, st_98_70, st_98_71, st_98_74, st_98_75, st_98_78, st_98_81, st_98_82, ini_98, fs_cl, fs_len, fs_rf, fs_M, fs_put, fs_cpy, ↓reduceIte, rv_ref, true_or, or_true, true_and, and_true, nI_ltI, ix_nI, nI_clamp, ps_i, ps_n, Option.bind_some, sm_0, sm_1, sm_2, sm_3, sm_4, sto_0, sto_1, sto_2, sto_3, sto_4, sto_5, sto_6, sto_7, sto_8, sto_9, sto_10, sto_11, sto_12, sto_13, sto_14, nlo_n, nlo_i, nlo_r, nlo_0, nlo_l, and_self, or_self, Nat.reduceEqDiff, Nat.reduceLT, Nat.reduceLeDiff, Nat.one_ne_zero, Nat.zero_ne_one, w0, f0, r7, m0, q0, a1, a2, e10, mk.1, th.1, k9, kr, kw, p1, es, em])
          | some k =>
            have k2 := hw2 k rfl
            have nk : ¬ nI k < nI 0 := nI_nlt (Nat.zero_le _) (by omega)
            have kt := c65e th fdt (by omega : 0 < E 0) (by omega) (by omega : v' < 2147483648) (by omega : s' < 1000) (by omega : k < 1000) (e := e) (by omega)
            simp only [wq] at kw
            simp only [wq, lqA]
            by_cases ck : k < s'
            · (rw [j_C_eq]; simp (disch := omega) only [st_98_0, st_98_1, st_98_4, st_98_5, st_98_8, st_98_11, st_98_12, st_98_15, st_98_18, st_98_19, st_98_22, st_98_25, st_98_26, st_98_27, st_98_30, st_98_31, st_98_32, st_98_35, st_98_36, st_98_39, st_98_40, st_98_41, st_98_44, st_98_46, st_98_48, st_98_51, st_98_52, st_98_53, st_98_56, st_98_57, st_98_58, st_98_61, st_98_63, st_98_64, st_98_65, st_98_67, st_98_70, st_98_71, st_98_74, st_98_75, st_98_78, st_98_81, st_98_82, ini_98, fs_cl, fs_len, fs_rf, fs_M, fs_put, fs_cpy, ↓reduceIte, rv_ref, true_or, or_true, true_and, and_true, nI_ltI, ix_nI, nI_clamp, ps_i, ps_n, Option.bind_some, sm_0, sm_1, sm_2, sm_3, sm_4, sto_0, sto_1, sto_2, sto_3, sto_4, sto_5, sto_6, sto_7, sto_8, sto_9, sto_10, sto_11, sto_12, sto_13, sto_14, nlo_n, nlo_i, nlo_r, nlo_0, nlo_l, and_self, or_self, Nat.reduceEqDiff, Nat.reduceLT, Nat.reduceLeDiff, Nat.one_ne_zero, Nat.zero_ne_one, w0, f0, r7, m0, q0, a1, a2, e10, mk.1, th.1, k9, kr, kw, p1, es, nk, ck, kt])
            · (rw [j_C_eq]; simp (disch := omega) only [st_98_0, st_98_1, st_98_4, st_98_5, st_98_8, st_98_11, st_98_12, st_98_15, st_98_18, st_98_19, st_98_22, st_98_25, st_98_26, st_98_27, st_98_30, st_98_31, st_98_32, st_98_35, st_98_36, st_98_39, st_98_40, st_98_41, st_98_44, st_98_46, st_98_48, st_98_51, st_98_52, st_98_53, st_98_56, st_98_57, st_98_58, st_98_61, st_98_63, st_98_64, st_98_65, st_98_67, st_98_70, st_98_71, st_98_74, st_98_75, st_98_78, st_98_81, st_98_82, ini_98, fs_cl, fs_len, fs_rf, fs_M, fs_put, fs_cpy, ↓reduceIte, rv_ref, true_or, or_true, true_and, and_true, nI_ltI, ix_nI, nI_clamp, ps_i, ps_n, Option.bind_some, sm_0, sm_1, sm_2, sm_3, sm_4, sto_0, sto_1, sto_2, sto_3, sto_4, sto_5, sto_6, sto_7, sto_8, sto_9, sto_10, sto_11, sto_12, sto_13, sto_14, nlo_n, nlo_i, nlo_r, nlo_0, nlo_l, and_self, or_self, Nat.reduceEqDiff, Nat.reduceLT, Nat.reduceLeDiff, Nat.one_ne_zero, Nat.zero_ne_one, w0, f0, r7, m0, q0, a1, a2, e10, mk.1, th.1, k9, kr, kw, p1, es, nk, ck])
      · obtain ⟨q1, q2⟩ := wq_out hq
        refine go_f0 hi (k := 1) ?_
        intro e he
        obtain ⟨e, rfl⟩ : ∃ d, e = d + 1 := ⟨e - 1, by omega⟩
        have k9 := c9ye (M := M) mk hs h8 hc (e := e) (by omega)
        have kr := c132ye (σ := FS h M) hr (e := e) (by omega)
        have kw := c128e (σ := FS h M) v (e := e) (by omega)
        rw [q1] at kw
        have kf := c119 (M := M) hh (k := 1) (by omega) (e := e) (by omega)
        refine ⟨by (rw [j_C_eq]; simp (disch := omega) only [st_98_0, st_98_1, st_98_4, st_98_5, st_98_8, st_98_11, st_98_12, st_98_15, st_98_18, st_98_19, st_98_22, st_98_25, st_98_26, st_98_27, st_98_30, st_98_31, st_98_32, st_98_35, st_98_36, st_98_39, st_98_40, st_98_41, st_98_44, st_98_46, st_98_48, st_98_51, st_98_52, st_98_53, st_98_56, st_98_57, st_98_58, st_98_61, st_98_63, st_98_64, st_98_65, st_98_67, st_98_70, st_98_71, st_98_74, st_98_75, st_98_78, st_98_81, st_98_82, ini_98, fs_cl, fs_len, fs_rf, fs_M, fs_put, fs_cpy, ↓reduceIte, rv_ref, true_or, or_true, true_and, and_true, nI_ltI, ix_nI, nI_clamp, ps_i, ps_n, Option.bind_some, sm_0, sm_1, sm_2, sm_3, sm_4, sto_0, sto_1, sto_2, sto_3, sto_4, sto_5, sto_6, sto_7, sto_8, sto_9, sto_10, sto_11, sto_12, sto_13, sto_14, nlo_n, nlo_i, nlo_r, nlo_0, nlo_l, and_self, or_self, Nat.reduceEqDiff, Nat.reduceLT, Nat.reduceLeDiff, Nat.one_ne_zero, Nat.zero_ne_one, w0, f0, r7, m0, q0, a1, a2, e10, mk.1, k9, kr, kw, kf]), fun M' hR' => ?_⟩
        have k9 := r146ye md hR'.1 h8 hc (e := e) (by omega)
        have kd := r169y (σ := FS h M') hr (e := e) (by omega)
        have nr : ¬ nI (rs p q r) < nI 0 := nI_nlt (Nat.zero_le _) (by have := rs_le (x := p) (y := q) (z := r); omega)
        have kl := r143e (σ := FS h M') v.toInt64 (-1) (lN 2) (e := e) (by omega)
        rw [q2] at kl
        have kf := r142 (M := M') md (k := 1) (by omega) (e := e) (by omega)
        (rw [j_C_eq]; simp (disch := omega) only [st_196_0, st_196_1, st_196_2, st_196_5, st_196_8, st_196_9, st_196_12, st_196_15, st_196_16, st_196_17, st_196_20, st_196_23, st_196_26, st_196_29, st_196_30, st_196_31, st_196_34, st_196_35, st_196_36, st_196_38, st_196_39, st_196_43, st_196_44, st_196_47, st_196_48, st_196_52, st_196_54, st_196_57, st_196_58, st_196_59, st_196_60, st_196_62, st_196_64, st_196_67, st_196_70, st_196_71, st_196_74, st_196_76, st_196_79, st_196_80, st_196_82, st_196_85, st_196_86, st_196_89, st_196_90, st_196_91, st_196_94, st_196_95, st_196_96, st_196_99, st_196_102, st_196_104, st_196_105, st_196_108, st_196_109, st_196_110, st_196_111, st_196_113, st_196_116, st_196_119, st_196_120, st_196_121, st_196_124, ini_196, fs_cl, fs_len, fs_rf, fs_M, fs_put, fs_cpy, ↓reduceIte, rv_ref, true_or, or_true, true_and, and_true, nI_ltI, ix_nI, nI_clamp, ps_i, ps_n, Option.bind_some, sm_0, sm_1, sm_2, sm_3, sm_4, sto_0, sto_1, sto_2, sto_3, sto_4, sto_5, sto_6, sto_7, sto_8, sto_9, sto_10, sto_11, sto_12, sto_13, sto_14, nlo_n, nlo_i, nlo_r, nlo_0, nlo_l, and_self, or_self, Nat.reduceEqDiff, Nat.reduceLT, Nat.reduceLeDiff, Nat.one_ne_zero, Nat.zero_ne_one, w0, f0, r7, m0, q0, a1, a2, e10, k9, kd, nr, kl, kf])
    · refine go_f0 hi (k := 1) ?_
      intro e he
      obtain ⟨e, rfl⟩ : ∃ d, e = d + 1 := ⟨e - 1, by omega⟩
      have k9 := c9ye (M := M) mk hs h8 hc (e := e) (by omega)
      have kr := c132ne (x := 0) (y := 0) (z := 0) (σ := FS h M) hy (e := e) (by omega)
      have kf := c119 (M := M) hh (k := 1) (by omega) (e := e) (by omega)
      refine ⟨by (rw [j_C_eq]; simp (disch := omega) only [st_98_0, st_98_1, st_98_4, st_98_5, st_98_8, st_98_11, st_98_12, st_98_15, st_98_18, st_98_19, st_98_22, st_98_25, st_98_26, st_98_27, st_98_30, st_98_31, st_98_32, st_98_35, st_98_36, st_98_39, st_98_40, st_98_41, st_98_44, st_98_46, st_98_48, st_98_51, st_98_52, st_98_53, st_98_56, st_98_57, st_98_58, st_98_61, st_98_63, st_98_64, st_98_65, st_98_67, st_98_70, st_98_71, st_98_74, st_98_75, st_98_78, st_98_81, st_98_82, ini_98, fs_cl, fs_len, fs_rf, fs_M, fs_put, fs_cpy, ↓reduceIte, rv_ref, true_or, or_true, true_and, and_true, nI_ltI, ix_nI, nI_clamp, ps_i, ps_n, Option.bind_some, sm_0, sm_1, sm_2, sm_3, sm_4, sto_0, sto_1, sto_2, sto_3, sto_4, sto_5, sto_6, sto_7, sto_8, sto_9, sto_10, sto_11, sto_12, sto_13, sto_14, nlo_n, nlo_i, nlo_r, nlo_0, nlo_l, and_self, or_self, Nat.reduceEqDiff, Nat.reduceLT, Nat.reduceLeDiff, Nat.one_ne_zero, Nat.zero_ne_one, w0, f0, r7, m0, q0, a1, a2, e10, mk.1, k9, kr, kf]), fun M' hR' => ?_⟩
      have k9 := r146ye md hR'.1 h8 hc (e := e) (by omega)
      have kd := r169n (σ := FS h M') hy (e := e) (by omega)
      have em : (-1 : Int32) < nI 0 := by decide +kernel
      have kf := r142 (M := M') md (k := 1) (by omega) (e := e) (by omega)
      (rw [j_C_eq]; simp (disch := omega) only [st_196_0, st_196_1, st_196_2, st_196_5, st_196_8, st_196_9, st_196_12, st_196_15, st_196_16, st_196_17, st_196_20, st_196_23, st_196_26, st_196_29, st_196_30, st_196_31, st_196_34, st_196_35, st_196_36, st_196_38, st_196_39, st_196_43, st_196_44, st_196_47, st_196_48, st_196_52, st_196_54, st_196_57, st_196_58, st_196_59, st_196_60, st_196_62, st_196_64, st_196_67, st_196_70, st_196_71, st_196_74, st_196_76, st_196_79, st_196_80, st_196_82, st_196_85, st_196_86, st_196_89, st_196_90, st_196_91, st_196_94, st_196_95, st_196_96, st_196_99, st_196_102, st_196_104, st_196_105, st_196_108, st_196_109, st_196_110, st_196_111, st_196_113, st_196_116, st_196_119, st_196_120, st_196_121, st_196_124, ini_196, fs_cl, fs_len, fs_rf, fs_M, fs_put, fs_cpy, ↓reduceIte, rv_ref, true_or, or_true, true_and, and_true, nI_ltI, ix_nI, nI_clamp, ps_i, ps_n, Option.bind_some, sm_0, sm_1, sm_2, sm_3, sm_4, sto_0, sto_1, sto_2, sto_3, sto_4, sto_5, sto_6, sto_7, sto_8, sto_9, sto_10, sto_11, sto_12, sto_13, sto_14, nlo_n, nlo_i, nlo_r, nlo_0, nlo_l, and_self, or_self, Nat.reduceEqDiff, Nat.reduceLT, Nat.reduceLeDiff, Nat.one_ne_zero, Nat.zero_ne_one, w0, f0, r7, m0, q0, a1, a2, e10, k9, kd, em, kf])
  · refine go_f0 hi (k := 1) ?_
    intro e he
    obtain ⟨e, rfl⟩ : ∃ d, e = d + 1 := ⟨e - 1, by omega⟩
    have k9 := c9ne (M := M) mk hs h8 hx (e := e) (by omega)
    have kf := c119 (M := M) hh (k := 1) (by omega) (e := e) (by omega)
    refine ⟨by (rw [j_C_eq]; simp (disch := omega) only [st_98_0, st_98_1, st_98_4, st_98_5, st_98_8, st_98_11, st_98_12, st_98_15, st_98_18, st_98_19, st_98_22, st_98_25, st_98_26, st_98_27, st_98_30, st_98_31, st_98_32, st_98_35, st_98_36, st_98_39, st_98_40, st_98_41, st_98_44, st_98_46, st_98_48, st_98_51, st_98_52, st_98_53, st_98_56, st_98_57, st_98_58, st_98_61, st_98_63, st_98_64, st_98_65, st_98_67, st_98_70, st_98_71, st_98_74, st_98_75, st_98_78, st_98_81, st_98_82, ini_98, fs_cl, fs_len, fs_rf, fs_M, fs_put, fs_cpy, ↓reduceIte, rv_ref, true_or, or_true, true_and, and_true, nI_ltI, ix_nI, nI_clamp, ps_i, ps_n, Option.bind_some, sm_0, sm_1, sm_2, sm_3, sm_4, sto_0, sto_1, sto_2, sto_3, sto_4, sto_5, sto_6, sto_7, sto_8, sto_9, sto_10, sto_11, sto_12, sto_13, sto_14, nlo_n, nlo_i, nlo_r, nlo_0, nlo_l, and_self, or_self, Nat.reduceEqDiff, Nat.reduceLT, Nat.reduceLeDiff, Nat.one_ne_zero, Nat.zero_ne_one, w0, f0, r7, m0, q0, a1, a2, e10, mk.1, k9, kf]), fun M' hR' => ?_⟩
    have k9 := r146ne md hR'.1 h8 hx (e := e) (by omega)
    have kf := r142 (M := M') md (k := 1) (by omega) (e := e) (by omega)
    (rw [j_C_eq]; simp (disch := omega) only [st_196_0, st_196_1, st_196_2, st_196_5, st_196_8, st_196_9, st_196_12, st_196_15, st_196_16, st_196_17, st_196_20, st_196_23, st_196_26, st_196_29, st_196_30, st_196_31, st_196_34, st_196_35, st_196_36, st_196_38, st_196_39, st_196_43, st_196_44, st_196_47, st_196_48, st_196_52, st_196_54, st_196_57, st_196_58, st_196_59, st_196_60, st_196_62, st_196_64, st_196_67, st_196_70, st_196_71, st_196_74, st_196_76, st_196_79, st_196_80, st_196_82, st_196_85, st_196_86, st_196_89, st_196_90, st_196_91, st_196_94, st_196_95, st_196_96, st_196_99, st_196_102, st_196_104, st_196_105, st_196_108, st_196_109, st_196_110, st_196_111, st_196_113, st_196_116, st_196_119, st_196_120, st_196_121, st_196_124, ini_196, fs_cl, fs_len, fs_rf, fs_M, fs_put, fs_cpy, ↓reduceIte, rv_ref, true_or, or_true, true_and, and_true, nI_ltI, ix_nI, nI_clamp, ps_i, ps_n, Option.bind_some, sm_0, sm_1, sm_2, sm_3, sm_4, sto_0, sto_1, sto_2, sto_3, sto_4, sto_5, sto_6, sto_7, sto_8, sto_9, sto_10, sto_11, sto_12, sto_13, sto_14, nlo_n, nlo_i, nlo_r, nlo_0, nlo_l, and_self, or_self, Nat.reduceEqDiff, Nat.reduceLT, Nat.reduceLeDiff, Nat.one_ne_zero, Nat.zero_ne_one, w0, f0, r7, m0, q0, a1, a2, e10, k9, kf])
theorem g_hands (hh : Hd h) (hi : IE M E z K0 K1 T W) (x v : Int32) : Go h M 99 197 [.int x, .int v] := by
  have w0 := hh.1.1
  have f0 := hh.1.2.1
  have r7 := hh.1.2.2.2.2.2.2.2.1
  have mk := hh.2.1.1
  have th := hh.2.2.2.1.1
  have md : Md h 115 := hh.2.2.2.2.2.2.2.1
  have m0 := md.1
  have q0 := md.2.1.1
  have a1 := md.2.1.2.1
  have a2 := md.2.1.2.2.1
  have hw := hi.1.1
  have h6 := hw.1
  have h8 := hw.2.1
  have hm := hi.2.1.1
  have hs := hm.1
  have hR : RC M 115 E z K0 K1 := hi.2.2.1.1
  have sd := hi.2.2.2.1
  have e10 : ¬ nI 1 = nI 0 := by decide +kernel
  by_cases hx : ∃ j, j < E 1 ∧ x = nI j
  · obtain ⟨c, hc, rfl⟩ := hx
    have cv := hw.2.2.2.2.2.2.2 c hc
    have ch := cv.2.2.1
    have n3 := nE_le (E := E) c
    have rl : rE E c < 1000 := rn_lt cv.2.2.2
    by_cases hq : ∃ q : Option Nat, (∀ k, q = some k → k ≤ 2) ∧ v = wq q
    · obtain ⟨w, hw2, rfl⟩ := hq
      obtain ⟨q1, q2⟩ := wq_in hw2
      have pl : E 0 ^ nE E c ≤ 216 := by
        have e1 := Nat.pow_le_pow_left h6 (nE E c)
        have e2 := Nat.pow_le_pow_right (show 0 < 6 by omega) n3
        omega
      obtain ⟨lt1, lt2⟩ := hwS_lt (E := E) (rv := rE E c) (n := E 0) (s := nE E c) (E 0 ^ nE E c) 0 0 0 (Nat.le_refl _) (Nat.le_refl _)
      have cqx : ∀ M1, (∀ x, x ≠ 64 → M1 x = M x) → cq M M1 := fun M1 p x hx => p x (by omega)
      have x7 := (Mk_7 mk).1
      have y7 := (Mk_7 mk).2
      have F2 : ∀ σ e, 1 ≤ e → j_C e 133 [.int (nI (rE E c))] σ = some (some (.int (nI (nE E c))), σ) := fun σ e he => by
        have := c133e (σ := σ) (v := rE E c) (by omega) (e := e) he
        rw [this]; unfold rE nE; rw [sz_rn cv.2.2.2]
      cases hl : hqA (hwS E (rE E c) (E 0) (nE E c) (E 0 ^ nE E c) 0 0 0).1 (E 0) (nE E c) (hwS E (rE E c) (E 0) (nE E c) (E 0 ^ nE E c) 0 0 0).2 w with
      | none =>
        refine go_f hi (k := 2) ?_
        intro e he
        obtain ⟨e, rfl⟩ : ∃ d, e = d + 1 := ⟨e - 1, by omega⟩
        obtain ⟨M1, p1, p2, p3⟩ := c66e th mk (by omega) hm hw hc (e := e) (by omega)
        have hR1 := RC_fc (k := 2) (RC_cq (cqx _ p3) hR)
        have s3 := r197 md hR1 hw hc hw2 (e := e + 1) (by omega)
        rw [hl] at s3
        refine ⟨M1, fc 2 M1, ?_, cqx _ p3, Sd_cg (p3 81 (by omega)) sd, s3, rg_r, hR1⟩
        have kf := c119 (M := M1) hh (k := 2) (by omega) (e := e) (by omega)
        have k9 := c9ye (M := M) mk hs h8 hc (e := e) (by omega)
        have kw := c128e (σ := FS h M) (wq w) (e := e) (by omega)
        rw [q1] at kw
        have gr := n33ie (M := M1) y7 (by omega : c < 8) (e := e) (by omega)
        rw [p3 (2 + 16) (by omega), (hm.2.2.1 c hc).2.2] at gr
        have kn := F2 (FS h M1) e (by omega)
        cases w with
        | none => cases hl
        | some k =>
          have k2 := hw2 k rfl
          have nk : ¬ nI k < nI 0 := nI_nlt (Nat.zero_le _) (by omega)
          simp only [hqA] at hl
          simp only [wq] at kw
          simp only [wq]
          by_cases cz : (hwS E (rE E c) (E 0) (nE E c) (E 0 ^ nE E c) 0 0 0).2 = 0
          · (rw [j_C_eq]; simp (disch := omega) only [st_99_0, st_99_1, st_99_4, st_99_5, st_99_8, st_99_11, st_99_12, st_99_15, st_99_18, st_99_19, st_99_20, st_99_23, st_99_24, st_99_25, st_99_28, st_99_29, st_99_32, st_99_33, st_99_36, st_99_37, st_99_38, st_99_41, st_99_42, st_99_43, st_99_44, st_99_47, st_99_48, st_99_49, st_99_52, st_99_55, st_99_56, st_99_59, st_99_62, st_99_65, st_99_66, st_99_67, st_99_70, st_99_71, st_99_72, st_99_75, st_99_76, st_99_79, ini_99, fs_cl, fs_len, fs_rf, fs_M, fs_put, fs_cpy, ↓reduceIte, rv_ref, true_or, or_true, true_and, and_true, nI_ltI, ix_nI, nI_clamp, ps_i, ps_n, Option.bind_some, sm_0, sm_1, sm_2, sm_3, sm_4, sto_0, sto_1, sto_2, sto_3, sto_4, sto_5, sto_6, sto_7, sto_8, sto_9, sto_10, sto_11, sto_12, sto_13, sto_14, nlo_n, nlo_i, nlo_r, nlo_0, nlo_l, and_self, or_self, Nat.reduceEqDiff, Nat.reduceLT, Nat.reduceLeDiff, Nat.one_ne_zero, Nat.zero_ne_one, w0, f0, r7, m0, q0, a1, a2, e10, mk.1, th.1, k9, kw, p1, nk, nI_eq, eq_true cz, kf])
          · have cl : ¬ k < nE E c := fun hk => by rw [if_neg (by omega)] at hl; cases hl
            (rw [j_C_eq]; simp (disch := omega) only [st_99_0, st_99_1, st_99_4, st_99_5, st_99_8, st_99_11, st_99_12, st_99_15, st_99_18, st_99_19, st_99_20, st_99_23, st_99_24, st_99_25, st_99_28, st_99_29, st_99_32, st_99_33, st_99_36, st_99_37, st_99_38, st_99_41, st_99_42, st_99_43, st_99_44, st_99_47, st_99_48, st_99_49, st_99_52, st_99_55, st_99_56, st_99_59, st_99_62, st_99_65, st_99_66, st_99_67, st_99_70, st_99_71, st_99_72, st_99_75, st_99_76, st_99_79, ini_99, fs_cl, fs_len, fs_rf, fs_M, fs_put, fs_cpy, ↓reduceIte, rv_ref, true_or, or_true, true_and, and_true, nI_ltI, ix_nI, nI_clamp, ps_i, ps_n, Option.bind_some, sm_0, sm_1, sm_2, sm_3, sm_4, sto_0, sto_1, sto_2, sto_3, sto_4, sto_5, sto_6, sto_7, sto_8, sto_9, sto_10, sto_11, sto_12, sto_13, sto_14, nlo_n, nlo_i, nlo_r, nlo_0, nlo_l, and_self, or_self, Nat.reduceEqDiff, Nat.reduceLT, Nat.reduceLeDiff, Nat.one_ne_zero, Nat.zero_ne_one, w0, f0, r7, m0, q0, a1, a2, e10, mk.1, th.1, k9, kw, p1, nk, nI_eq, cz, x7, y7.1, gr, kn, cl, kf])
      | some a =>
        refine go_q hi ?_
        intro e he
        obtain ⟨e, rfl⟩ : ∃ d, e = d + 1 := ⟨e - 1, by omega⟩
        obtain ⟨M1, p1, p2, p3⟩ := c66e th mk (by omega) hm hw hc (e := e) (by omega)
        have hR1 := RC_cq (cqx _ p3) hR
        have s3 := r197 md hR1 hw hc hw2 (e := e + 1) (by omega)
        rw [hl] at s3
        refine ⟨a, M1, M1, ?_, cqx _ p3, Sd_cg (p3 81 (by omega)) sd, s3, rg_r, hR1⟩
        have k9 := c9ye (M := M) mk hs h8 hc (e := e) (by omega)
        have kw := c128e (σ := FS h M) (wq w) (e := e) (by omega)
        rw [q1] at kw
        have gr := n33ie (M := M1) y7 (by omega : c < 8) (e := e) (by omega)
        rw [p3 (2 + 16) (by omega), (hm.2.2.1 c hc).2.2] at gr
        have kn := F2 (FS h M1) e (by omega)
        cases w with
        | none =>
          have em : (-1 : Int32) < nI 0 := by decide +kernel
          simp only [hqA] at hl
          cases hl
          simp only [wq] at kw
          simp only [wq]
          (rw [j_C_eq]; simp (disch := omega) only [st_99_0, st_99_1, st_99_4, st_99_5, st_99_8, st_99_11, st_99_12, st_99_15, st_99_18, st_99_19, st_99_20, st_99_23, st_99_24, st_99_25, st_99_28, st_99_29, st_99_32, st_99_33, st_99_36, st_99_37, st_99_38, st_99_41, st_99_42, st_99_43, st_99_44, st_99_47, st_99_48, st_99_49, st_99_52, st_99_55, st_99_56, st_99_59, st_99_62, st_99_65, st_99_66, st_99_67, st_99_70, st_99_71, st_99_72, st_99_75, st_99_76, st_99_79, ini_99, fs_cl, fs_len, fs_rf, fs_M, fs_put, fs_cpy, ↓reduceIte, rv_ref, true_or, or_true, true_and, and_true, nI_ltI, ix_nI, nI_clamp, ps_i, ps_n, Option.bind_some, sm_0, sm_1, sm_2, sm_3, sm_4, sto_0, sto_1, sto_2, sto_3, sto_4, sto_5, sto_6, sto_7, sto_8, sto_9, sto_10, sto_11, sto_12, sto_13, sto_14, nlo_n, nlo_i, nlo_r, nlo_0, nlo_l, and_self, or_self, Nat.reduceEqDiff, Nat.reduceLT, Nat.reduceLeDiff, Nat.one_ne_zero, Nat.zero_ne_one, w0, f0, r7, m0, q0, a1, a2, e10, mk.1, th.1, k9, kw, p1, em])
        | some k =>
          have k2 := hw2 k rfl
          have nk : ¬ nI k < nI 0 := nI_nlt (Nat.zero_le _) (by omega)
          simp only [hqA] at hl
          simp only [wq] at kw
          simp only [wq]
          by_cases cz : (hwS E (rE E c) (E 0) (nE E c) (E 0 ^ nE E c) 0 0 0).2 = 0 ∨ nE E c ≤ k
          · rw [if_pos cz] at hl; cases hl
          · rw [if_neg cz] at hl
            cases hl
            have cz0 : ¬ (hwS E (rE E c) (E 0) (nE E c) (E 0 ^ nE E c) 0 0 0).2 = 0 := fun hh => cz (.inl hh)
            have cl : k < nE E c := by omega
            have kt := c65e th p2 (by omega : 0 < E 0) (by omega) (by omega) (by omega : nE E c < 1000) (by omega : k < 1000) (e := e) (by omega)
            (rw [j_C_eq]; simp (disch := omega) only [st_99_0, st_99_1, st_99_4, st_99_5, st_99_8, st_99_11, st_99_12, st_99_15, st_99_18, st_99_19, st_99_20, st_99_23, st_99_24, st_99_25, st_99_28, st_99_29, st_99_32, st_99_33, st_99_36, st_99_37, st_99_38, st_99_41, st_99_42, st_99_43, st_99_44, st_99_47, st_99_48, st_99_49, st_99_52, st_99_55, st_99_56, st_99_59, st_99_62, st_99_65, st_99_66, st_99_67, st_99_70, st_99_71, st_99_72, st_99_75, st_99_76, st_99_79, ini_99, fs_cl, fs_len, fs_rf, fs_M, fs_put, fs_cpy, ↓reduceIte, rv_ref, true_or, or_true, true_and, and_true, nI_ltI, ix_nI, nI_clamp, ps_i, ps_n, Option.bind_some, sm_0, sm_1, sm_2, sm_3, sm_4, sto_0, sto_1, sto_2, sto_3, sto_4, sto_5, sto_6, sto_7, sto_8, sto_9, sto_10, sto_11, sto_12, sto_13, sto_14, nlo_n, nlo_i, nlo_r, nlo_0, nlo_l, and_self, or_self, Nat.reduceEqDiff, Nat.reduceLT, Nat.reduceLeDiff, Nat.one_ne_zero, Nat.zero_ne_one, w0, f0, r7, m0, q0, a1, a2, e10, mk.1, th.1, k9, kw, p1, nk, nI_eq, cz0, x7, y7.1, gr, kn, cl, kt])
    · obtain ⟨q1, q2⟩ := wq_out hq
      refine go_f0 hi (k := 1) ?_
      intro e he
      obtain ⟨e, rfl⟩ : ∃ d, e = d + 1 := ⟨e - 1, by omega⟩
      have k9 := c9ye (M := M) mk hs h8 hc (e := e) (by omega)
      have kw := c128e (σ := FS h M) v (e := e) (by omega)
      rw [q1] at kw
      have kf := c119 (M := M) hh (k := 1) (by omega) (e := e) (by omega)
      refine ⟨by (rw [j_C_eq]; simp (disch := omega) only [st_99_0, st_99_1, st_99_4, st_99_5, st_99_8, st_99_11, st_99_12, st_99_15, st_99_18, st_99_19, st_99_20, st_99_23, st_99_24, st_99_25, st_99_28, st_99_29, st_99_32, st_99_33, st_99_36, st_99_37, st_99_38, st_99_41, st_99_42, st_99_43, st_99_44, st_99_47, st_99_48, st_99_49, st_99_52, st_99_55, st_99_56, st_99_59, st_99_62, st_99_65, st_99_66, st_99_67, st_99_70, st_99_71, st_99_72, st_99_75, st_99_76, st_99_79, ini_99, fs_cl, fs_len, fs_rf, fs_M, fs_put, fs_cpy, ↓reduceIte, rv_ref, true_or, or_true, true_and, and_true, nI_ltI, ix_nI, nI_clamp, ps_i, ps_n, Option.bind_some, sm_0, sm_1, sm_2, sm_3, sm_4, sto_0, sto_1, sto_2, sto_3, sto_4, sto_5, sto_6, sto_7, sto_8, sto_9, sto_10, sto_11, sto_12, sto_13, sto_14, nlo_n, nlo_i, nlo_r, nlo_0, nlo_l, and_self, or_self, Nat.reduceEqDiff, Nat.reduceLT, Nat.reduceLeDiff, Nat.one_ne_zero, Nat.zero_ne_one, w0, f0, r7, m0, q0, a1, a2, e10, mk.1, k9, kw, kf]), fun M' hR' => ?_⟩
      have k9 := r146ye md hR'.1 h8 hc (e := e) (by omega)
      have kl := r143e (σ := FS h M') v.toInt64 (-1) (lN 2) (e := e) (by omega)
      rw [q2] at kl
      have kf := r142 (M := M') md (k := 1) (by omega) (e := e) (by omega)
      (rw [j_C_eq]; simp (disch := omega) only [st_197_0, st_197_1, st_197_2, st_197_5, st_197_8, st_197_9, st_197_10, st_197_13, st_197_16, st_197_19, st_197_22, st_197_23, st_197_24, st_197_27, st_197_28, st_197_29, st_197_30, st_197_33, st_197_34, st_197_35, st_197_37, st_197_38, st_197_42, st_197_43, st_197_46, st_197_48, st_197_49, st_197_52, st_197_53, st_197_54, st_197_55, st_197_57, st_197_60, st_197_63, st_197_64, st_197_66, st_197_67, st_197_69, st_197_70, st_197_74, st_197_76, st_197_79, st_197_81, st_197_83, st_197_84, st_197_86, st_197_87, st_197_89, st_197_90, st_197_94, st_197_95, st_197_98, st_197_100, st_197_101, st_197_104, st_197_105, st_197_106, st_197_107, st_197_109, st_197_111, st_197_113, st_197_114, st_197_115, st_197_118, st_197_119, st_197_120, st_197_121, st_197_123, st_197_125, st_197_128, st_197_130, st_197_132, st_197_135, st_197_136, st_197_138, st_197_139, st_197_142, st_197_143, st_197_144, st_197_145, st_197_147, st_197_148, st_197_151, st_197_154, st_197_155, st_197_158, st_197_159, st_197_161, st_197_163, st_197_165, st_197_168, st_197_171, st_197_173, st_197_176, st_197_178, st_197_181, st_197_183, st_197_186, st_197_188, st_197_190, st_197_192, st_197_194, st_197_197, st_197_198, st_197_201, st_197_202, st_197_203, st_197_205, st_197_208, st_197_211, st_197_212, st_197_215, st_197_217, st_197_218, st_197_220, st_197_223, st_197_224, st_197_225, st_197_228, st_197_229, st_197_230, st_197_233, st_197_234, st_197_236, st_197_238, st_197_239, st_197_243, st_197_244, st_197_247, st_197_249, st_197_250, st_197_253, st_197_254, st_197_255, st_197_256, st_197_258, st_197_261, st_197_264, st_197_266, st_197_268, st_197_269, st_197_270, st_197_273, st_197_274, st_197_275, st_197_276, ini_197, fs_cl, fs_len, fs_rf, fs_M, fs_put, fs_cpy, ↓reduceIte, rv_ref, true_or, or_true, true_and, and_true, nI_ltI, ix_nI, nI_clamp, ps_i, ps_n, Option.bind_some, sm_0, sm_1, sm_2, sm_3, sm_4, sto_0, sto_1, sto_2, sto_3, sto_4, sto_5, sto_6, sto_7, sto_8, sto_9, sto_10, sto_11, sto_12, sto_13, sto_14, nlo_n, nlo_i, nlo_r, nlo_0, nlo_l, and_self, or_self, Nat.reduceEqDiff, Nat.reduceLT, Nat.reduceLeDiff, Nat.one_ne_zero, Nat.zero_ne_one, w0, f0, r7, m0, q0, a1, a2, e10, k9, kl, kf])
  · refine go_f0 hi (k := 1) ?_
    intro e he
    obtain ⟨e, rfl⟩ : ∃ d, e = d + 1 := ⟨e - 1, by omega⟩
    have k9 := c9ne (M := M) mk hs h8 hx (e := e) (by omega)
    have kf := c119 (M := M) hh (k := 1) (by omega) (e := e) (by omega)
    refine ⟨by (rw [j_C_eq]; simp (disch := omega) only [st_99_0, st_99_1, st_99_4, st_99_5, st_99_8, st_99_11, st_99_12, st_99_15, st_99_18, st_99_19, st_99_20, st_99_23, st_99_24, st_99_25, st_99_28, st_99_29, st_99_32, st_99_33, st_99_36, st_99_37, st_99_38, st_99_41, st_99_42, st_99_43, st_99_44, st_99_47, st_99_48, st_99_49, st_99_52, st_99_55, st_99_56, st_99_59, st_99_62, st_99_65, st_99_66, st_99_67, st_99_70, st_99_71, st_99_72, st_99_75, st_99_76, st_99_79, ini_99, fs_cl, fs_len, fs_rf, fs_M, fs_put, fs_cpy, ↓reduceIte, rv_ref, true_or, or_true, true_and, and_true, nI_ltI, ix_nI, nI_clamp, ps_i, ps_n, Option.bind_some, sm_0, sm_1, sm_2, sm_3, sm_4, sto_0, sto_1, sto_2, sto_3, sto_4, sto_5, sto_6, sto_7, sto_8, sto_9, sto_10, sto_11, sto_12, sto_13, sto_14, nlo_n, nlo_i, nlo_r, nlo_0, nlo_l, and_self, or_self, Nat.reduceEqDiff, Nat.reduceLT, Nat.reduceLeDiff, Nat.one_ne_zero, Nat.zero_ne_one, w0, f0, r7, m0, q0, a1, a2, e10, mk.1, k9, kf]), fun M' hR' => ?_⟩
    have k9 := r146ne md hR'.1 h8 hx (e := e) (by omega)
    have kf := r142 (M := M') md (k := 1) (by omega) (e := e) (by omega)
    (rw [j_C_eq]; simp (disch := omega) only [st_197_0, st_197_1, st_197_2, st_197_5, st_197_8, st_197_9, st_197_10, st_197_13, st_197_16, st_197_19, st_197_22, st_197_23, st_197_24, st_197_27, st_197_28, st_197_29, st_197_30, st_197_33, st_197_34, st_197_35, st_197_37, st_197_38, st_197_42, st_197_43, st_197_46, st_197_48, st_197_49, st_197_52, st_197_53, st_197_54, st_197_55, st_197_57, st_197_60, st_197_63, st_197_64, st_197_66, st_197_67, st_197_69, st_197_70, st_197_74, st_197_76, st_197_79, st_197_81, st_197_83, st_197_84, st_197_86, st_197_87, st_197_89, st_197_90, st_197_94, st_197_95, st_197_98, st_197_100, st_197_101, st_197_104, st_197_105, st_197_106, st_197_107, st_197_109, st_197_111, st_197_113, st_197_114, st_197_115, st_197_118, st_197_119, st_197_120, st_197_121, st_197_123, st_197_125, st_197_128, st_197_130, st_197_132, st_197_135, st_197_136, st_197_138, st_197_139, st_197_142, st_197_143, st_197_144, st_197_145, st_197_147, st_197_148, st_197_151, st_197_154, st_197_155, st_197_158, st_197_159, st_197_161, st_197_163, st_197_165, st_197_168, st_197_171, st_197_173, st_197_176, st_197_178, st_197_181, st_197_183, st_197_186, st_197_188, st_197_190, st_197_192, st_197_194, st_197_197, st_197_198, st_197_201, st_197_202, st_197_203, st_197_205, st_197_208, st_197_211, st_197_212, st_197_215, st_197_217, st_197_218, st_197_220, st_197_223, st_197_224, st_197_225, st_197_228, st_197_229, st_197_230, st_197_233, st_197_234, st_197_236, st_197_238, st_197_239, st_197_243, st_197_244, st_197_247, st_197_249, st_197_250, st_197_253, st_197_254, st_197_255, st_197_256, st_197_258, st_197_261, st_197_264, st_197_266, st_197_268, st_197_269, st_197_270, st_197_273, st_197_274, st_197_275, st_197_276, ini_197, fs_cl, fs_len, fs_rf, fs_M, fs_put, fs_cpy, ↓reduceIte, rv_ref, true_or, or_true, true_and, and_true, nI_ltI, ix_nI, nI_clamp, ps_i, ps_n, Option.bind_some, sm_0, sm_1, sm_2, sm_3, sm_4, sto_0, sto_1, sto_2, sto_3, sto_4, sto_5, sto_6, sto_7, sto_8, sto_9, sto_10, sto_11, sto_12, sto_13, sto_14, nlo_n, nlo_i, nlo_r, nlo_0, nlo_l, and_self, or_self, Nat.reduceEqDiff, Nat.reduceLT, Nat.reduceLeDiff, Nat.one_ne_zero, Nat.zero_ne_one, w0, f0, r7, m0, q0, a1, a2, e10, k9, kf])
