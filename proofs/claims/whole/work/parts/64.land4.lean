/-! Both sides: rub, as. -/
variable {h : j_Hd} {M M1 M2 : Nat → Nat → Int32} {o : Nat} {E : Nat → Nat} {z : Int32} {K0 K1 : List Int32} {T : Nat → Nat} {W : Nat → Int32}
theorem dv_10 {a q r : Nat} (ha : a = 10 * q + r) (hr : r < 10) (hb : a < 1000) : nI a / nI 10 = nI q ∧ nI a - nI q * nI 10 = nI r := by
  constructor
  · rw [nI_div (by omega) (by omega)]; congr 1; omega
  · rw [nI_mul, nI_sub (by omega)]; congr 1; omega
theorem dv_1 {a : Nat} (hb : a < 1000) : nI a / nI 1 = nI a := by
  rw [nI_div (by omega) (by omega), Nat.div_one]
theorem r172 (hk : Md h o) (hR : RLd M o E z) (h8 : E 1 ≤ 8) {c x y w : Nat} (hc : c < E 1) (hr : Rw x y w) {e : Nat} (he : 4 ≤ e) : j_C e 172 [.ref o, .int (nI c), .int (nI (rn x y w))] (FS h M) = some (some (.int (nI (rs x y w))), FS h (j_up (j_up (j_up M (o + 1) (38 + 5 * c + 2 + 2) (nI w)) (o + 1) (38 + 5 * c + 2 + 1) (nI y)) (o + 1) (38 + 5 * c + 2 + 0) (nI x))) := by
  obtain ⟨e, rfl⟩ : ∃ d, e = d + 1 := ⟨e - 1, by omega⟩
  have m0 := hk.1
  have q0 := hk.2.1.1
  have a1 := hk.2.1.2.1
  have a2 := hk.2.1.2.2.1
  have e10 : ¬ nI 1 = nI 0 := by decide +kernel
  have d10 : ¬ nI 10 = nI 0 := by decide +kernel
  have l9 := r146ye hk hR h8 hc (e := e) (by omega)
  have gd := r169y (σ := FS h M) hr (e := e) (by omega)
  have r3 := rs_le (x := x) (y := y) (z := w)
  have nr : ¬ nI (rs x y w) < nI 0 := nI_nlt (Nat.zero_le _) (by omega)
  have b2 : 38 + 5 * c + 2 + 2 < 250 := by omega
  have b1 : 38 + 5 * c + 2 + 1 < 250 := by omega
  have b0 : 38 + 5 * c + 2 + 0 < 250 := by omega
  have n2 : ¬ nI 2 < nI 0 := by decide +kernel
  have n1 : ¬ nI 1 < nI 0 := by decide +kernel
  have n0 : ¬ nI 0 < nI 0 := by decide +kernel
  have nm : (-1 : Int32) < nI 0 := by decide +kernel
  have v2 : nI 2 + (-1) = nI 1 := nI_m1 1
  have v1 : nI 1 + (-1) = nI 0 := nI_m1 0
  have v0 : nI 0 + (-1) = (-1) := by decide +kernel
  have rl := rn_lt hr
  obtain ⟨h1, h2, h3, h4, h5⟩ := hr
  have one1 := dv_1 rl
  have onex := dv_1 (a := x) (by omega)
  have t0 : 2 < 3 := by omega
  have t1 : 1 < 3 := by omega
  have t2 : 0 < 3 := by omega
  have t3 : ¬ 2 < 2 := by omega
  have t4 : 1 < 2 := by omega
  have t5 : 0 < 2 := by omega
  have t6 : ¬ 2 < 1 := by omega
  have t7 : ¬ 1 < 1 := by omega
  have t8 : 0 < 1 := by omega
  have t9 : ¬ 2 < 0 := by omega
  have ta : ¬ 1 < 0 := by omega
  have tb : ¬ 0 < 0 := by omega
  rw [j_C_eq]
  simp (disch := omega) only [st_172_0, st_172_1, st_172_4, st_172_5, st_172_6, st_172_7, st_172_10, st_172_13, st_172_14, st_172_17, st_172_18, st_172_19, st_172_22, st_172_23, st_172_24, st_172_26, st_172_27, st_172_31, st_172_34, st_172_35, st_172_38, st_172_40, st_172_41, st_172_42, st_172_43, st_172_44, st_172_45, st_172_46, st_172_48, st_172_49, st_172_51, st_172_52, st_172_55, st_172_57, st_172_59, st_172_60, st_172_63, st_172_64, st_172_65, st_172_67, st_172_69, st_172_70, st_172_73, st_172_75, st_172_78, st_172_79, st_172_80, st_172_82, st_172_85, st_172_88, st_172_89, ini_172, fs_cl, fs_len, fs_rf, fs_M, fs_put, fs_cpy, ↓reduceIte, rv_ref, true_or, or_true, true_and, and_true, nI_ltI, ix_nI, nI_clamp, ps_i, ps_n, Option.bind_some, sm_0, sm_1, sm_2, sm_3, sm_4, sto_0, sto_1, sto_2, sto_3, sto_4, sto_5, sto_6, sto_7, sto_8, sto_9, sto_10, sto_11, sto_12, sto_13, sto_14, nlo_n, nlo_i, nlo_r, nlo_0, nlo_l, and_self, or_self, Nat.reduceEqDiff, Nat.reduceLT, Nat.reduceLeDiff, Nat.one_ne_zero, Nat.zero_ne_one, m0, gd, l9, e10, nr]
  by_cases c1 : x = 0
  · have cy := h4 c1
    have cw := h5 cy
    have es : rs x y w = 0 := by unfold rs; rw [if_pos c1]
    rw [es]
    rw [st_172_29]
    simp (disch := omega) only [st_172_0, st_172_1, st_172_4, st_172_5, st_172_6, st_172_7, st_172_10, st_172_13, st_172_14, st_172_17, st_172_18, st_172_19, st_172_22, st_172_23, st_172_24, st_172_26, st_172_27, st_172_31, st_172_34, st_172_35, st_172_38, st_172_40, st_172_41, st_172_42, st_172_43, st_172_44, st_172_45, st_172_46, st_172_48, st_172_49, st_172_51, st_172_52, st_172_55, st_172_57, st_172_59, st_172_60, st_172_63, st_172_64, st_172_65, st_172_67, st_172_69, st_172_70, st_172_73, st_172_75, st_172_78, st_172_79, st_172_80, st_172_82, st_172_85, st_172_88, st_172_89, ini_172, fs_cl, fs_len, fs_rf, fs_M, fs_put, fs_cpy, ↓reduceIte, rv_ref, true_or, or_true, true_and, and_true, nI_ltI, ix_nI, nI_clamp, ps_i, ps_n, Option.bind_some, sm_0, sm_1, sm_2, sm_3, sm_4, sto_0, sto_1, sto_2, sto_3, sto_4, sto_5, sto_6, sto_7, sto_8, sto_9, sto_10, sto_11, sto_12, sto_13, sto_14, nlo_n, nlo_i, nlo_r, nlo_0, nlo_l, and_self, or_self, Nat.reduceEqDiff, Nat.reduceLT, Nat.reduceLeDiff, Nat.one_ne_zero, Nat.zero_ne_one, m0, q0, a1, a2, n2, nI_mul, nI_add, b2, t9, one1, e10, v2]
    rw [st_172_29]
    simp (disch := omega) only [st_172_0, st_172_1, st_172_4, st_172_5, st_172_6, st_172_7, st_172_10, st_172_13, st_172_14, st_172_17, st_172_18, st_172_19, st_172_22, st_172_23, st_172_24, st_172_26, st_172_27, st_172_31, st_172_34, st_172_35, st_172_38, st_172_40, st_172_41, st_172_42, st_172_43, st_172_44, st_172_45, st_172_46, st_172_48, st_172_49, st_172_51, st_172_52, st_172_55, st_172_57, st_172_59, st_172_60, st_172_63, st_172_64, st_172_65, st_172_67, st_172_69, st_172_70, st_172_73, st_172_75, st_172_78, st_172_79, st_172_80, st_172_82, st_172_85, st_172_88, st_172_89, ini_172, fs_cl, fs_len, fs_rf, fs_M, fs_put, fs_cpy, ↓reduceIte, rv_ref, true_or, or_true, true_and, and_true, nI_ltI, ix_nI, nI_clamp, ps_i, ps_n, Option.bind_some, sm_0, sm_1, sm_2, sm_3, sm_4, sto_0, sto_1, sto_2, sto_3, sto_4, sto_5, sto_6, sto_7, sto_8, sto_9, sto_10, sto_11, sto_12, sto_13, sto_14, nlo_n, nlo_i, nlo_r, nlo_0, nlo_l, and_self, or_self, Nat.reduceEqDiff, Nat.reduceLT, Nat.reduceLeDiff, Nat.one_ne_zero, Nat.zero_ne_one, m0, q0, a1, a2, n1, nI_mul, nI_add, b1, ta, one1, e10, v1]
    rw [st_172_29]
    simp (disch := omega) only [st_172_0, st_172_1, st_172_4, st_172_5, st_172_6, st_172_7, st_172_10, st_172_13, st_172_14, st_172_17, st_172_18, st_172_19, st_172_22, st_172_23, st_172_24, st_172_26, st_172_27, st_172_31, st_172_34, st_172_35, st_172_38, st_172_40, st_172_41, st_172_42, st_172_43, st_172_44, st_172_45, st_172_46, st_172_48, st_172_49, st_172_51, st_172_52, st_172_55, st_172_57, st_172_59, st_172_60, st_172_63, st_172_64, st_172_65, st_172_67, st_172_69, st_172_70, st_172_73, st_172_75, st_172_78, st_172_79, st_172_80, st_172_82, st_172_85, st_172_88, st_172_89, ini_172, fs_cl, fs_len, fs_rf, fs_M, fs_put, fs_cpy, ↓reduceIte, rv_ref, true_or, or_true, true_and, and_true, nI_ltI, ix_nI, nI_clamp, ps_i, ps_n, Option.bind_some, sm_0, sm_1, sm_2, sm_3, sm_4, sto_0, sto_1, sto_2, sto_3, sto_4, sto_5, sto_6, sto_7, sto_8, sto_9, sto_10, sto_11, sto_12, sto_13, sto_14, nlo_n, nlo_i, nlo_r, nlo_0, nlo_l, and_self, or_self, Nat.reduceEqDiff, Nat.reduceLT, Nat.reduceLeDiff, Nat.one_ne_zero, Nat.zero_ne_one, m0, q0, a1, a2, n0, nI_mul, nI_add, b0, tb, one1, e10, v0]
    rw [st_172_29]
    simp (disch := omega) only [st_172_0, st_172_1, st_172_4, st_172_5, st_172_6, st_172_7, st_172_10, st_172_13, st_172_14, st_172_17, st_172_18, st_172_19, st_172_22, st_172_23, st_172_24, st_172_26, st_172_27, st_172_31, st_172_34, st_172_35, st_172_38, st_172_40, st_172_41, st_172_42, st_172_43, st_172_44, st_172_45, st_172_46, st_172_48, st_172_49, st_172_51, st_172_52, st_172_55, st_172_57, st_172_59, st_172_60, st_172_63, st_172_64, st_172_65, st_172_67, st_172_69, st_172_70, st_172_73, st_172_75, st_172_78, st_172_79, st_172_80, st_172_82, st_172_85, st_172_88, st_172_89, ini_172, fs_cl, fs_len, fs_rf, fs_M, fs_put, fs_cpy, ↓reduceIte, rv_ref, true_or, or_true, true_and, and_true, nI_ltI, ix_nI, nI_clamp, ps_i, ps_n, Option.bind_some, sm_0, sm_1, sm_2, sm_3, sm_4, sto_0, sto_1, sto_2, sto_3, sto_4, sto_5, sto_6, sto_7, sto_8, sto_9, sto_10, sto_11, sto_12, sto_13, sto_14, nlo_n, nlo_i, nlo_r, nlo_0, nlo_l, and_self, or_self, Nat.reduceEqDiff, Nat.reduceLT, Nat.reduceLeDiff, Nat.one_ne_zero, Nat.zero_ne_one, nm, c1, cy, cw]
  · by_cases c2 : y = 0
    · have cw := h5 c2
      have es : rs x y w = 1 := by unfold rs; rw [if_neg c1, if_pos c2]
      have ev : rn x y w = x := by unfold rn; rw [if_pos c2]
      obtain ⟨p1, p2⟩ := dv_10 (a := rn x y w) (q := 0) (r := x) (by omega) (by omega) rl
      rw [es]
      rw [st_172_29]
      simp (disch := omega) only [st_172_0, st_172_1, st_172_4, st_172_5, st_172_6, st_172_7, st_172_10, st_172_13, st_172_14, st_172_17, st_172_18, st_172_19, st_172_22, st_172_23, st_172_24, st_172_26, st_172_27, st_172_31, st_172_34, st_172_35, st_172_38, st_172_40, st_172_41, st_172_42, st_172_43, st_172_44, st_172_45, st_172_46, st_172_48, st_172_49, st_172_51, st_172_52, st_172_55, st_172_57, st_172_59, st_172_60, st_172_63, st_172_64, st_172_65, st_172_67, st_172_69, st_172_70, st_172_73, st_172_75, st_172_78, st_172_79, st_172_80, st_172_82, st_172_85, st_172_88, st_172_89, ini_172, fs_cl, fs_len, fs_rf, fs_M, fs_put, fs_cpy, ↓reduceIte, rv_ref, true_or, or_true, true_and, and_true, nI_ltI, ix_nI, nI_clamp, ps_i, ps_n, Option.bind_some, sm_0, sm_1, sm_2, sm_3, sm_4, sto_0, sto_1, sto_2, sto_3, sto_4, sto_5, sto_6, sto_7, sto_8, sto_9, sto_10, sto_11, sto_12, sto_13, sto_14, nlo_n, nlo_i, nlo_r, nlo_0, nlo_l, and_self, or_self, Nat.reduceEqDiff, Nat.reduceLT, Nat.reduceLeDiff, Nat.one_ne_zero, Nat.zero_ne_one, m0, q0, a1, a2, n2, nI_mul, nI_add, b2, t6, one1, e10, v2]
      rw [st_172_29]
      simp (disch := omega) only [st_172_0, st_172_1, st_172_4, st_172_5, st_172_6, st_172_7, st_172_10, st_172_13, st_172_14, st_172_17, st_172_18, st_172_19, st_172_22, st_172_23, st_172_24, st_172_26, st_172_27, st_172_31, st_172_34, st_172_35, st_172_38, st_172_40, st_172_41, st_172_42, st_172_43, st_172_44, st_172_45, st_172_46, st_172_48, st_172_49, st_172_51, st_172_52, st_172_55, st_172_57, st_172_59, st_172_60, st_172_63, st_172_64, st_172_65, st_172_67, st_172_69, st_172_70, st_172_73, st_172_75, st_172_78, st_172_79, st_172_80, st_172_82, st_172_85, st_172_88, st_172_89, ini_172, fs_cl, fs_len, fs_rf, fs_M, fs_put, fs_cpy, ↓reduceIte, rv_ref, true_or, or_true, true_and, and_true, nI_ltI, ix_nI, nI_clamp, ps_i, ps_n, Option.bind_some, sm_0, sm_1, sm_2, sm_3, sm_4, sto_0, sto_1, sto_2, sto_3, sto_4, sto_5, sto_6, sto_7, sto_8, sto_9, sto_10, sto_11, sto_12, sto_13, sto_14, nlo_n, nlo_i, nlo_r, nlo_0, nlo_l, and_self, or_self, Nat.reduceEqDiff, Nat.reduceLT, Nat.reduceLeDiff, Nat.one_ne_zero, Nat.zero_ne_one, m0, q0, a1, a2, n1, nI_mul, nI_add, b1, t7, one1, e10, v1]
      rw [st_172_29]
      rw [nI_mul] at p2
      simp (disch := omega) only [st_172_0, st_172_1, st_172_4, st_172_5, st_172_6, st_172_7, st_172_10, st_172_13, st_172_14, st_172_17, st_172_18, st_172_19, st_172_22, st_172_23, st_172_24, st_172_26, st_172_27, st_172_31, st_172_34, st_172_35, st_172_38, st_172_40, st_172_41, st_172_42, st_172_43, st_172_44, st_172_45, st_172_46, st_172_48, st_172_49, st_172_51, st_172_52, st_172_55, st_172_57, st_172_59, st_172_60, st_172_63, st_172_64, st_172_65, st_172_67, st_172_69, st_172_70, st_172_73, st_172_75, st_172_78, st_172_79, st_172_80, st_172_82, st_172_85, st_172_88, st_172_89, ini_172, fs_cl, fs_len, fs_rf, fs_M, fs_put, fs_cpy, ↓reduceIte, rv_ref, true_or, or_true, true_and, and_true, nI_ltI, ix_nI, nI_clamp, ps_i, ps_n, Option.bind_some, sm_0, sm_1, sm_2, sm_3, sm_4, sto_0, sto_1, sto_2, sto_3, sto_4, sto_5, sto_6, sto_7, sto_8, sto_9, sto_10, sto_11, sto_12, sto_13, sto_14, nlo_n, nlo_i, nlo_r, nlo_0, nlo_l, and_self, or_self, Nat.reduceEqDiff, Nat.reduceLT, Nat.reduceLeDiff, Nat.one_ne_zero, Nat.zero_ne_one, m0, q0, a1, a2, n0, nI_mul, nI_add, b0, t8, p1, p2, d10, v0]
      rw [st_172_29]
      simp (disch := omega) only [st_172_0, st_172_1, st_172_4, st_172_5, st_172_6, st_172_7, st_172_10, st_172_13, st_172_14, st_172_17, st_172_18, st_172_19, st_172_22, st_172_23, st_172_24, st_172_26, st_172_27, st_172_31, st_172_34, st_172_35, st_172_38, st_172_40, st_172_41, st_172_42, st_172_43, st_172_44, st_172_45, st_172_46, st_172_48, st_172_49, st_172_51, st_172_52, st_172_55, st_172_57, st_172_59, st_172_60, st_172_63, st_172_64, st_172_65, st_172_67, st_172_69, st_172_70, st_172_73, st_172_75, st_172_78, st_172_79, st_172_80, st_172_82, st_172_85, st_172_88, st_172_89, ini_172, fs_cl, fs_len, fs_rf, fs_M, fs_put, fs_cpy, ↓reduceIte, rv_ref, true_or, or_true, true_and, and_true, nI_ltI, ix_nI, nI_clamp, ps_i, ps_n, Option.bind_some, sm_0, sm_1, sm_2, sm_3, sm_4, sto_0, sto_1, sto_2, sto_3, sto_4, sto_5, sto_6, sto_7, sto_8, sto_9, sto_10, sto_11, sto_12, sto_13, sto_14, nlo_n, nlo_i, nlo_r, nlo_0, nlo_l, and_self, or_self, Nat.reduceEqDiff, Nat.reduceLT, Nat.reduceLeDiff, Nat.one_ne_zero, Nat.zero_ne_one, nm, c2, cw]
    · by_cases c3 : w = 0
      · have es : rs x y w = 2 := by unfold rs; rw [if_neg c1, if_neg c2, if_pos c3]
        have ev : rn x y w = 10 * x + y := by unfold rn; rw [if_neg c2, if_pos c3]
        obtain ⟨p1, p2⟩ := dv_10 (a := rn x y w) (q := x) (r := y) (by omega) (by omega) rl
        obtain ⟨p3, p4⟩ := dv_10 (a := x) (q := 0) (r := x) (by omega) (by omega) (by omega)
        rw [nI_mul] at p2 p4
        rw [es]
        rw [st_172_29]
        simp (disch := omega) only [st_172_0, st_172_1, st_172_4, st_172_5, st_172_6, st_172_7, st_172_10, st_172_13, st_172_14, st_172_17, st_172_18, st_172_19, st_172_22, st_172_23, st_172_24, st_172_26, st_172_27, st_172_31, st_172_34, st_172_35, st_172_38, st_172_40, st_172_41, st_172_42, st_172_43, st_172_44, st_172_45, st_172_46, st_172_48, st_172_49, st_172_51, st_172_52, st_172_55, st_172_57, st_172_59, st_172_60, st_172_63, st_172_64, st_172_65, st_172_67, st_172_69, st_172_70, st_172_73, st_172_75, st_172_78, st_172_79, st_172_80, st_172_82, st_172_85, st_172_88, st_172_89, ini_172, fs_cl, fs_len, fs_rf, fs_M, fs_put, fs_cpy, ↓reduceIte, rv_ref, true_or, or_true, true_and, and_true, nI_ltI, ix_nI, nI_clamp, ps_i, ps_n, Option.bind_some, sm_0, sm_1, sm_2, sm_3, sm_4, sto_0, sto_1, sto_2, sto_3, sto_4, sto_5, sto_6, sto_7, sto_8, sto_9, sto_10, sto_11, sto_12, sto_13, sto_14, nlo_n, nlo_i, nlo_r, nlo_0, nlo_l, and_self, or_self, Nat.reduceEqDiff, Nat.reduceLT, Nat.reduceLeDiff, Nat.one_ne_zero, Nat.zero_ne_one, m0, q0, a1, a2, n2, nI_mul, nI_add, b2, t3, one1, e10, v2]
        rw [st_172_29]
        simp (disch := omega) only [st_172_0, st_172_1, st_172_4, st_172_5, st_172_6, st_172_7, st_172_10, st_172_13, st_172_14, st_172_17, st_172_18, st_172_19, st_172_22, st_172_23, st_172_24, st_172_26, st_172_27, st_172_31, st_172_34, st_172_35, st_172_38, st_172_40, st_172_41, st_172_42, st_172_43, st_172_44, st_172_45, st_172_46, st_172_48, st_172_49, st_172_51, st_172_52, st_172_55, st_172_57, st_172_59, st_172_60, st_172_63, st_172_64, st_172_65, st_172_67, st_172_69, st_172_70, st_172_73, st_172_75, st_172_78, st_172_79, st_172_80, st_172_82, st_172_85, st_172_88, st_172_89, ini_172, fs_cl, fs_len, fs_rf, fs_M, fs_put, fs_cpy, ↓reduceIte, rv_ref, true_or, or_true, true_and, and_true, nI_ltI, ix_nI, nI_clamp, ps_i, ps_n, Option.bind_some, sm_0, sm_1, sm_2, sm_3, sm_4, sto_0, sto_1, sto_2, sto_3, sto_4, sto_5, sto_6, sto_7, sto_8, sto_9, sto_10, sto_11, sto_12, sto_13, sto_14, nlo_n, nlo_i, nlo_r, nlo_0, nlo_l, and_self, or_self, Nat.reduceEqDiff, Nat.reduceLT, Nat.reduceLeDiff, Nat.one_ne_zero, Nat.zero_ne_one, m0, q0, a1, a2, n1, nI_mul, nI_add, b1, t4, p1, p2, d10, v1]
        rw [st_172_29]
        simp (disch := omega) only [st_172_0, st_172_1, st_172_4, st_172_5, st_172_6, st_172_7, st_172_10, st_172_13, st_172_14, st_172_17, st_172_18, st_172_19, st_172_22, st_172_23, st_172_24, st_172_26, st_172_27, st_172_31, st_172_34, st_172_35, st_172_38, st_172_40, st_172_41, st_172_42, st_172_43, st_172_44, st_172_45, st_172_46, st_172_48, st_172_49, st_172_51, st_172_52, st_172_55, st_172_57, st_172_59, st_172_60, st_172_63, st_172_64, st_172_65, st_172_67, st_172_69, st_172_70, st_172_73, st_172_75, st_172_78, st_172_79, st_172_80, st_172_82, st_172_85, st_172_88, st_172_89, ini_172, fs_cl, fs_len, fs_rf, fs_M, fs_put, fs_cpy, ↓reduceIte, rv_ref, true_or, or_true, true_and, and_true, nI_ltI, ix_nI, nI_clamp, ps_i, ps_n, Option.bind_some, sm_0, sm_1, sm_2, sm_3, sm_4, sto_0, sto_1, sto_2, sto_3, sto_4, sto_5, sto_6, sto_7, sto_8, sto_9, sto_10, sto_11, sto_12, sto_13, sto_14, nlo_n, nlo_i, nlo_r, nlo_0, nlo_l, and_self, or_self, Nat.reduceEqDiff, Nat.reduceLT, Nat.reduceLeDiff, Nat.one_ne_zero, Nat.zero_ne_one, m0, q0, a1, a2, n0, nI_mul, nI_add, b0, t5, p3, p4, d10, v0]
        rw [st_172_29]
        simp (disch := omega) only [st_172_0, st_172_1, st_172_4, st_172_5, st_172_6, st_172_7, st_172_10, st_172_13, st_172_14, st_172_17, st_172_18, st_172_19, st_172_22, st_172_23, st_172_24, st_172_26, st_172_27, st_172_31, st_172_34, st_172_35, st_172_38, st_172_40, st_172_41, st_172_42, st_172_43, st_172_44, st_172_45, st_172_46, st_172_48, st_172_49, st_172_51, st_172_52, st_172_55, st_172_57, st_172_59, st_172_60, st_172_63, st_172_64, st_172_65, st_172_67, st_172_69, st_172_70, st_172_73, st_172_75, st_172_78, st_172_79, st_172_80, st_172_82, st_172_85, st_172_88, st_172_89, ini_172, fs_cl, fs_len, fs_rf, fs_M, fs_put, fs_cpy, ↓reduceIte, rv_ref, true_or, or_true, true_and, and_true, nI_ltI, ix_nI, nI_clamp, ps_i, ps_n, Option.bind_some, sm_0, sm_1, sm_2, sm_3, sm_4, sto_0, sto_1, sto_2, sto_3, sto_4, sto_5, sto_6, sto_7, sto_8, sto_9, sto_10, sto_11, sto_12, sto_13, sto_14, nlo_n, nlo_i, nlo_r, nlo_0, nlo_l, and_self, or_self, Nat.reduceEqDiff, Nat.reduceLT, Nat.reduceLeDiff, Nat.one_ne_zero, Nat.zero_ne_one, nm, c3]
      · have es : rs x y w = 3 := by unfold rs; rw [if_neg c1, if_neg c2, if_neg c3]
        have ev : rn x y w = 100 * x + 10 * y + w := by unfold rn; rw [if_neg c2, if_neg c3]
        obtain ⟨p1, p2⟩ := dv_10 (a := rn x y w) (q := 10 * x + y) (r := w) (by omega) (by omega) rl
        obtain ⟨p5, p6⟩ := dv_10 (a := 10 * x + y) (q := x) (r := y) (by omega) (by omega) (by omega)
        obtain ⟨p3, p4⟩ := dv_10 (a := x) (q := 0) (r := x) (by omega) (by omega) (by omega)
        rw [nI_mul] at p2 p4 p6
        rw [es]
        rw [st_172_29]
        simp (disch := omega) only [st_172_0, st_172_1, st_172_4, st_172_5, st_172_6, st_172_7, st_172_10, st_172_13, st_172_14, st_172_17, st_172_18, st_172_19, st_172_22, st_172_23, st_172_24, st_172_26, st_172_27, st_172_31, st_172_34, st_172_35, st_172_38, st_172_40, st_172_41, st_172_42, st_172_43, st_172_44, st_172_45, st_172_46, st_172_48, st_172_49, st_172_51, st_172_52, st_172_55, st_172_57, st_172_59, st_172_60, st_172_63, st_172_64, st_172_65, st_172_67, st_172_69, st_172_70, st_172_73, st_172_75, st_172_78, st_172_79, st_172_80, st_172_82, st_172_85, st_172_88, st_172_89, ini_172, fs_cl, fs_len, fs_rf, fs_M, fs_put, fs_cpy, ↓reduceIte, rv_ref, true_or, or_true, true_and, and_true, nI_ltI, ix_nI, nI_clamp, ps_i, ps_n, Option.bind_some, sm_0, sm_1, sm_2, sm_3, sm_4, sto_0, sto_1, sto_2, sto_3, sto_4, sto_5, sto_6, sto_7, sto_8, sto_9, sto_10, sto_11, sto_12, sto_13, sto_14, nlo_n, nlo_i, nlo_r, nlo_0, nlo_l, and_self, or_self, Nat.reduceEqDiff, Nat.reduceLT, Nat.reduceLeDiff, Nat.one_ne_zero, Nat.zero_ne_one, m0, q0, a1, a2, n2, nI_mul, nI_add, b2, t0, p1, p2, d10, v2]
        rw [st_172_29]
        simp (disch := omega) only [st_172_0, st_172_1, st_172_4, st_172_5, st_172_6, st_172_7, st_172_10, st_172_13, st_172_14, st_172_17, st_172_18, st_172_19, st_172_22, st_172_23, st_172_24, st_172_26, st_172_27, st_172_31, st_172_34, st_172_35, st_172_38, st_172_40, st_172_41, st_172_42, st_172_43, st_172_44, st_172_45, st_172_46, st_172_48, st_172_49, st_172_51, st_172_52, st_172_55, st_172_57, st_172_59, st_172_60, st_172_63, st_172_64, st_172_65, st_172_67, st_172_69, st_172_70, st_172_73, st_172_75, st_172_78, st_172_79, st_172_80, st_172_82, st_172_85, st_172_88, st_172_89, ini_172, fs_cl, fs_len, fs_rf, fs_M, fs_put, fs_cpy, ↓reduceIte, rv_ref, true_or, or_true, true_and, and_true, nI_ltI, ix_nI, nI_clamp, ps_i, ps_n, Option.bind_some, sm_0, sm_1, sm_2, sm_3, sm_4, sto_0, sto_1, sto_2, sto_3, sto_4, sto_5, sto_6, sto_7, sto_8, sto_9, sto_10, sto_11, sto_12, sto_13, sto_14, nlo_n, nlo_i, nlo_r, nlo_0, nlo_l, and_self, or_self, Nat.reduceEqDiff, Nat.reduceLT, Nat.reduceLeDiff, Nat.one_ne_zero, Nat.zero_ne_one, m0, q0, a1, a2, n1, nI_mul, nI_add, b1, t1, p5, p6, d10, v1]
        rw [st_172_29]
        simp (disch := omega) only [st_172_0, st_172_1, st_172_4, st_172_5, st_172_6, st_172_7, st_172_10, st_172_13, st_172_14, st_172_17, st_172_18, st_172_19, st_172_22, st_172_23, st_172_24, st_172_26, st_172_27, st_172_31, st_172_34, st_172_35, st_172_38, st_172_40, st_172_41, st_172_42, st_172_43, st_172_44, st_172_45, st_172_46, st_172_48, st_172_49, st_172_51, st_172_52, st_172_55, st_172_57, st_172_59, st_172_60, st_172_63, st_172_64, st_172_65, st_172_67, st_172_69, st_172_70, st_172_73, st_172_75, st_172_78, st_172_79, st_172_80, st_172_82, st_172_85, st_172_88, st_172_89, ini_172, fs_cl, fs_len, fs_rf, fs_M, fs_put, fs_cpy, ↓reduceIte, rv_ref, true_or, or_true, true_and, and_true, nI_ltI, ix_nI, nI_clamp, ps_i, ps_n, Option.bind_some, sm_0, sm_1, sm_2, sm_3, sm_4, sto_0, sto_1, sto_2, sto_3, sto_4, sto_5, sto_6, sto_7, sto_8, sto_9, sto_10, sto_11, sto_12, sto_13, sto_14, nlo_n, nlo_i, nlo_r, nlo_0, nlo_l, and_self, or_self, Nat.reduceEqDiff, Nat.reduceLT, Nat.reduceLeDiff, Nat.one_ne_zero, Nat.zero_ne_one, m0, q0, a1, a2, n0, nI_mul, nI_add, b0, t2, p3, p4, d10, v0]
        rw [st_172_29]
        simp (disch := omega) only [st_172_0, st_172_1, st_172_4, st_172_5, st_172_6, st_172_7, st_172_10, st_172_13, st_172_14, st_172_17, st_172_18, st_172_19, st_172_22, st_172_23, st_172_24, st_172_26, st_172_27, st_172_31, st_172_34, st_172_35, st_172_38, st_172_40, st_172_41, st_172_42, st_172_43, st_172_44, st_172_45, st_172_46, st_172_48, st_172_49, st_172_51, st_172_52, st_172_55, st_172_57, st_172_59, st_172_60, st_172_63, st_172_64, st_172_65, st_172_67, st_172_69, st_172_70, st_172_73, st_172_75, st_172_78, st_172_79, st_172_80, st_172_82, st_172_85, st_172_88, st_172_89, ini_172, fs_cl, fs_len, fs_rf, fs_M, fs_put, fs_cpy, ↓reduceIte, rv_ref, true_or, or_true, true_and, and_true, nI_ltI, ix_nI, nI_clamp, ps_i, ps_n, Option.bind_some, sm_0, sm_1, sm_2, sm_3, sm_4, sto_0, sto_1, sto_2, sto_3, sto_4, sto_5, sto_6, sto_7, sto_8, sto_9, sto_10, sto_11, sto_12, sto_13, sto_14, nlo_n, nlo_i, nlo_r, nlo_0, nlo_l, and_self, or_self, Nat.reduceEqDiff, Nat.reduceLT, Nat.reduceLeDiff, Nat.one_ne_zero, Nat.zero_ne_one, nm]
theorem g_rub (hh : Hd h) (hi : IE M E z K0 K1 T W) (x v : Int32) : Go h M 87 172 [.int x, .int v] := by
  have w0 := hh.1.1
  have f0 := hh.1.2.1
  have r7 := hh.1.2.2.2.2.2.2.2.1
  have mk := hh.2.1.1
  have th := hh.2.2.2.1.1
  have md : Md h 115 := hh.2.2.2.2.2.2.2.1
  have m0 := md.1
  have q0 := md.2.1.1
  have a1 := md.2.1.2.1
  have a2 := md.2.1.2.2.1
  have hw := hi.1.1
  have h6 := hw.1
  have h8 := hw.2.1
  have hm := hi.2.1.1
  have hs := hm.1
  have hR : RC M 115 E z K0 K1 := hi.2.2.1.1
  have sd := hi.2.2.2.1
  have e10 : ¬ nI 1 = nI 0 := by decide +kernel
  by_cases hv : ∃ p q r, Rw p q r ∧ v = nI (rn p q r)
  · obtain ⟨p, q, r, hr, rfl⟩ := hv
    by_cases hx : ∃ j, j < E 1 ∧ x = nI j
    · obtain ⟨c, hc, rfl⟩ := hx
      have x7 := (Mk_7 mk).1
      have y7 := (Mk_7 mk).2
      refine go_c hi ?_
      intro e he
      obtain ⟨e, rfl⟩ : ∃ d, e = d + 1 := ⟨e - 1, by omega⟩
      have hm1 := CM_R hm h6 h8 (by omega : c < 8) (rn_lt hr)
      have p3 : mg 2 M (j_up M 18 c (nI (rn p q r))) := mg_up 18 (by omega) (by omega)
      have hR1 := RC_mg p3 hR
      refine ⟨nI (rs p q r), j_up M 18 c (nI (rn p q r)), _, upR E c p q r, z, ?_, hm1, p3, r172 md hR1.1 h8 hc hr (e := e + 1) (by omega), ?_, ?_, ?_, ?_, ?_⟩
      · have k9 := c9ye (M := M) mk hs h8 hc (e := e) (by omega)
        have kr := c132ye (σ := FS h M) hr (e := e) (by omega)
        have g := n34e (M := M) y7 (by omega : c < 8) (nI (rn p q r)) (e := e) (by omega)
        have F2 := c133e (σ := FS h (j_up M (2 + 16) c (nI (rn p q r)))) (v := rn p q r) (by have := rn_lt hr; omega) (e := e) (by omega)
        rw [sz_rn hr] at F2
        (rw [j_C_eq]; simp (disch := omega) only [st_87_0, st_87_1, st_87_4, st_87_5, st_87_8, st_87_11, st_87_12, st_87_15, st_87_18, st_87_19, st_87_20, st_87_23, st_87_24, st_87_25, st_87_28, st_87_31, st_87_32, st_87_33, st_87_36, st_87_37, st_87_40, ini_87, fs_cl, fs_len, fs_rf, fs_M, fs_put, fs_cpy, ↓reduceIte, rv_ref, true_or, or_true, true_and, and_true, nI_ltI, ix_nI, nI_clamp, ps_i, ps_n, Option.bind_some, sm_0, sm_1, sm_2, sm_3, sm_4, sto_0, sto_1, sto_2, sto_3, sto_4, sto_5, sto_6, sto_7, sto_8, sto_9, sto_10, sto_11, sto_12, sto_13, sto_14, nlo_n, nlo_i, nlo_r, nlo_0, nlo_l, and_self, or_self, Nat.reduceEqDiff, Nat.reduceLT, Nat.reduceLeDiff, Nat.one_ne_zero, Nat.zero_ne_one, w0, f0, r7, m0, q0, a1, a2, e10, mk.1, k9, kr, x7, y7.1, g, F2])
      · exact rg_t (rg_ld (o := 115) (ld_up (by omega))) (rg_t (rg_ld (o := 115) (ld_up (by omega))) (rg_ld (o := 115) (ld_up (by omega))))
      · refine RC_ld (o := 115) (ld_t (ld_up (by omega)) (ld_t (ld_up (by omega)) (ld_up (by omega)))) ?_ hR1
        refine RLd_cg (RLd_up (o := 115) (RLd_up (o := 115) (RLd_up (o := 115) hR1.1 (by omega)) (by omega)) (by omega)) (fun j hj => ?_)
        unfold upR upE
        rw [show 38 + 5 * c + 2 + 2 = 42 + 5 * c by omega, show 38 + 5 * c + 2 + 1 = 41 + 5 * c by omega, show 38 + 5 * c + 2 + 0 = 40 + 5 * c by omega]
        by_cases j0 : j = 42 + 5 * c
        · rw [if_pos j0, if_neg (show ¬ j = 40 + 5 * c by omega), if_neg (show ¬ j = 41 + 5 * c by omega), if_pos j0]
        · rw [if_neg j0, if_neg j0]
          by_cases j1 : j = 41 + 5 * c
          · rw [if_pos j1, if_neg (show ¬ j = 40 + 5 * c by omega), if_pos j1]
          · rw [if_neg j1, if_neg j1]
      · refine ⟨WE_R hw hr, ?_, ?_, ?_⟩
        · unfold upR; rw [upE_o _ (by omega), upE_o _ (by omega), upE_o _ (by omega)]; exact hi.1.2.1
        · unfold upR; rw [upE_o _ (by omega), upE_o _ (by omega), upE_o _ (by omega)]; exact hi.1.2.2.1
        · unfold upR; rw [upE_o _ (by omega), upE_o _ (by omega), upE_o _ (by omega)]; exact hi.1.2.2.2
      · unfold upR; rw [upE_o _ (by omega), upE_o _ (by omega), upE_o _ (by omega)]
      · unfold upR; rw [upE_o _ (by omega), upE_o _ (by omega), upE_o _ (by omega)]
    · refine go_f0 hi (k := 1) ?_
      intro e he
      obtain ⟨e, rfl⟩ : ∃ d, e = d + 1 := ⟨e - 1, by omega⟩
      have k9 := c9ne (M := M) mk hs h8 hx (e := e) (by omega)
      have kf := c119 (M := M) hh (k := 1) (by omega) (e := e) (by omega)
      refine ⟨by (rw [j_C_eq]; simp (disch := omega) only [st_87_0, st_87_1, st_87_4, st_87_5, st_87_8, st_87_11, st_87_12, st_87_15, st_87_18, st_87_19, st_87_20, st_87_23, st_87_24, st_87_25, st_87_28, st_87_31, st_87_32, st_87_33, st_87_36, st_87_37, st_87_40, ini_87, fs_cl, fs_len, fs_rf, fs_M, fs_put, fs_cpy, ↓reduceIte, rv_ref, true_or, or_true, true_and, and_true, nI_ltI, ix_nI, nI_clamp, ps_i, ps_n, Option.bind_some, sm_0, sm_1, sm_2, sm_3, sm_4, sto_0, sto_1, sto_2, sto_3, sto_4, sto_5, sto_6, sto_7, sto_8, sto_9, sto_10, sto_11, sto_12, sto_13, sto_14, nlo_n, nlo_i, nlo_r, nlo_0, nlo_l, and_self, or_self, Nat.reduceEqDiff, Nat.reduceLT, Nat.reduceLeDiff, Nat.one_ne_zero, Nat.zero_ne_one, w0, f0, r7, m0, q0, a1, a2, e10, mk.1, k9, kf]), fun M' hR' => ?_⟩
      have l9 := r146ne md hR'.1 h8 hx (e := e) (by omega)
      have gd := r169y (σ := FS h M') hr (e := e) (by omega)
      have kf := r142 (M := M') md (k := 1) (by omega) (e := e) (by omega)
      (rw [j_C_eq]; simp (disch := omega) only [st_172_0, st_172_1, st_172_4, st_172_5, st_172_6, st_172_7, st_172_10, st_172_13, st_172_14, st_172_17, st_172_18, st_172_19, st_172_22, st_172_23, st_172_24, st_172_26, st_172_27, st_172_31, st_172_34, st_172_35, st_172_38, st_172_40, st_172_41, st_172_42, st_172_43, st_172_44, st_172_45, st_172_46, st_172_48, st_172_49, st_172_51, st_172_52, st_172_55, st_172_57, st_172_59, st_172_60, st_172_63, st_172_64, st_172_65, st_172_67, st_172_69, st_172_70, st_172_73, st_172_75, st_172_78, st_172_79, st_172_80, st_172_82, st_172_85, st_172_88, st_172_89, ini_172, fs_cl, fs_len, fs_rf, fs_M, fs_put, fs_cpy, ↓reduceIte, rv_ref, true_or, or_true, true_and, and_true, nI_ltI, ix_nI, nI_clamp, ps_i, ps_n, Option.bind_some, sm_0, sm_1, sm_2, sm_3, sm_4, sto_0, sto_1, sto_2, sto_3, sto_4, sto_5, sto_6, sto_7, sto_8, sto_9, sto_10, sto_11, sto_12, sto_13, sto_14, nlo_n, nlo_i, nlo_r, nlo_0, nlo_l, and_self, or_self, Nat.reduceEqDiff, Nat.reduceLT, Nat.reduceLeDiff, Nat.one_ne_zero, Nat.zero_ne_one, w0, f0, r7, m0, q0, a1, a2, e10, gd, l9, kf])
  · refine go_f0 hi (k := 1) ?_
    intro e he
    obtain ⟨e, rfl⟩ : ∃ d, e = d + 1 := ⟨e - 1, by omega⟩
    have kr := c132ne (x := 0) (y := 0) (z := 0) (σ := FS h M) hv (e := e) (by omega)
    have kf := c119 (M := M) hh (k := 1) (by omega) (e := e) (by omega)
    have em : (-1 : Int32) < nI 0 := by decide +kernel
    by_cases hx : ∃ j, j < E 1 ∧ x = nI j
    · obtain ⟨c, hc, rfl⟩ := hx
      have k9 := c9ye (M := M) mk hs h8 hc (e := e) (by omega)
      refine ⟨by (rw [j_C_eq]; simp (disch := omega) only [st_87_0, st_87_1, st_87_4, st_87_5, st_87_8, st_87_11, st_87_12, st_87_15, st_87_18, st_87_19, st_87_20, st_87_23, st_87_24, st_87_25, st_87_28, st_87_31, st_87_32, st_87_33, st_87_36, st_87_37, st_87_40, ini_87, fs_cl, fs_len, fs_rf, fs_M, fs_put, fs_cpy, ↓reduceIte, rv_ref, true_or, or_true, true_and, and_true, nI_ltI, ix_nI, nI_clamp, ps_i, ps_n, Option.bind_some, sm_0, sm_1, sm_2, sm_3, sm_4, sto_0, sto_1, sto_2, sto_3, sto_4, sto_5, sto_6, sto_7, sto_8, sto_9, sto_10, sto_11, sto_12, sto_13, sto_14, nlo_n, nlo_i, nlo_r, nlo_0, nlo_l, and_self, or_self, Nat.reduceEqDiff, Nat.reduceLT, Nat.reduceLeDiff, Nat.one_ne_zero, Nat.zero_ne_one, w0, f0, r7, m0, q0, a1, a2, e10, mk.1, k9, kr, kf]), fun M' hR' => ?_⟩
      have l9 := r146ye md hR'.1 h8 hc (e := e) (by omega)
      have gd := r169n (σ := FS h M') hv (e := e) (by omega)
      have kf := r142 (M := M') md (k := 1) (by omega) (e := e) (by omega)
      (rw [j_C_eq]; simp (disch := omega) only [st_172_0, st_172_1, st_172_4, st_172_5, st_172_6, st_172_7, st_172_10, st_172_13, st_172_14, st_172_17, st_172_18, st_172_19, st_172_22, st_172_23, st_172_24, st_172_26, st_172_27, st_172_31, st_172_34, st_172_35, st_172_38, st_172_40, st_172_41, st_172_42, st_172_43, st_172_44, st_172_45, st_172_46, st_172_48, st_172_49, st_172_51, st_172_52, st_172_55, st_172_57, st_172_59, st_172_60, st_172_63, st_172_64, st_172_65, st_172_67, st_172_69, st_172_70, st_172_73, st_172_75, st_172_78, st_172_79, st_172_80, st_172_82, st_172_85, st_172_88, st_172_89, ini_172, fs_cl, fs_len, fs_rf, fs_M, fs_put, fs_cpy, ↓reduceIte, rv_ref, true_or, or_true, true_and, and_true, nI_ltI, ix_nI, nI_clamp, ps_i, ps_n, Option.bind_some, sm_0, sm_1, sm_2, sm_3, sm_4, sto_0, sto_1, sto_2, sto_3, sto_4, sto_5, sto_6, sto_7, sto_8, sto_9, sto_10, sto_11, sto_12, sto_13, sto_14, nlo_n, nlo_i, nlo_r, nlo_0, nlo_l, and_self, or_self, Nat.reduceEqDiff, Nat.reduceLT, Nat.reduceLeDiff, Nat.one_ne_zero, Nat.zero_ne_one, w0, f0, r7, m0, q0, a1, a2, e10, gd, l9, em, kf])
    · have k9 := c9ne (M := M) mk hs h8 hx (e := e) (by omega)
      refine ⟨by (rw [j_C_eq]; simp (disch := omega) only [st_87_0, st_87_1, st_87_4, st_87_5, st_87_8, st_87_11, st_87_12, st_87_15, st_87_18, st_87_19, st_87_20, st_87_23, st_87_24, st_87_25, st_87_28, st_87_31, st_87_32, st_87_33, st_87_36, st_87_37, st_87_40, ini_87, fs_cl, fs_len, fs_rf, fs_M, fs_put, fs_cpy, ↓reduceIte, rv_ref, true_or, or_true, true_and, and_true, nI_ltI, ix_nI, nI_clamp, ps_i, ps_n, Option.bind_some, sm_0, sm_1, sm_2, sm_3, sm_4, sto_0, sto_1, sto_2, sto_3, sto_4, sto_5, sto_6, sto_7, sto_8, sto_9, sto_10, sto_11, sto_12, sto_13, sto_14, nlo_n, nlo_i, nlo_r, nlo_0, nlo_l, and_self, or_self, Nat.reduceEqDiff, Nat.reduceLT, Nat.reduceLeDiff, Nat.one_ne_zero, Nat.zero_ne_one, w0, f0, r7, m0, q0, a1, a2, e10, mk.1, k9, kf]), fun M' hR' => ?_⟩
      have l9 := r146ne md hR'.1 h8 hx (e := e) (by omega)
      have gd := r169n (σ := FS h M') hv (e := e) (by omega)
      have kf := r142 (M := M') md (k := 1) (by omega) (e := e) (by omega)
      (rw [j_C_eq]; simp (disch := omega) only [st_172_0, st_172_1, st_172_4, st_172_5, st_172_6, st_172_7, st_172_10, st_172_13, st_172_14, st_172_17, st_172_18, st_172_19, st_172_22, st_172_23, st_172_24, st_172_26, st_172_27, st_172_31, st_172_34, st_172_35, st_172_38, st_172_40, st_172_41, st_172_42, st_172_43, st_172_44, st_172_45, st_172_46, st_172_48, st_172_49, st_172_51, st_172_52, st_172_55, st_172_57, st_172_59, st_172_60, st_172_63, st_172_64, st_172_65, st_172_67, st_172_69, st_172_70, st_172_73, st_172_75, st_172_78, st_172_79, st_172_80, st_172_82, st_172_85, st_172_88, st_172_89, ini_172, fs_cl, fs_len, fs_rf, fs_M, fs_put, fs_cpy, ↓reduceIte, rv_ref, true_or, or_true, true_and, and_true, nI_ltI, ix_nI, nI_clamp, ps_i, ps_n, Option.bind_some, sm_0, sm_1, sm_2, sm_3, sm_4, sto_0, sto_1, sto_2, sto_3, sto_4, sto_5, sto_6, sto_7, sto_8, sto_9, sto_10, sto_11, sto_12, sto_13, sto_14, nlo_n, nlo_i, nlo_r, nlo_0, nlo_l, and_self, or_self, Nat.reduceEqDiff, Nat.reduceLT, Nat.reduceLeDiff, Nat.one_ne_zero, Nat.zero_ne_one, w0, f0, r7, m0, q0, a1, a2, e10, gd, l9, kf])
/-- the kind above, -1 as 7 -/
def abN (a : Nat) : Nat := if a = 0 then 7 else if a < 4 then 0 else if a < 7 then a - 3 else 7
def aI (a : Nat) : Int32 := if a < 7 then nI a else -1
theorem ab_K : ∀ a, a < 7 → abK a = aI (abN a) := by decide +kernel
theorem abN_le (a : Nat) : abN a ≤ 7 := by unfold abN; split <;> (try split) <;> (try split) <;> omega
theorem c130 (hh : Hd h) (hS : ST M) {a : Nat} (ha : a ≤ 7) {e : Nat} (he : 1 ≤ e) : j_C e 130 [.int (aI a)] (FS h M) = some (some (.int (aI (abN a))), FS h M) := by
  obtain ⟨e, rfl⟩ : ∃ d, e = d + 1 := ⟨e - 1, by omega⟩
  have s1 := hh.2.2.2.2.2.2.2.2.1
  have s2 := hh.2.2.2.2.2.2.2.2.2.1
  rw [j_C_eq]
  by_cases c7 : a < 7
  · have g := hS.1 a c7
    rw [ab_K a c7] at g
    have ea : aI a = nI a := by unfold aI; rw [if_pos c7]
    have n0 : ¬ nI a < nI 0 := nI_nlt (Nat.zero_le _) (by omega)
    rw [ea]
    simp (disch := omega) only [st_130_0, st_130_1, st_130_4, st_130_5, st_130_8, st_130_9, st_130_12, st_130_15, st_130_16, st_130_17, st_130_20, st_130_21, ini_130, fs_cl, fs_len, fs_rf, fs_M, fs_put, fs_cpy, ↓reduceIte, rv_ref, true_or, or_true, true_and, and_true, nI_ltI, ix_nI, nI_clamp, ps_i, ps_n, Option.bind_some, sm_0, sm_1, sm_2, sm_3, sm_4, sto_0, sto_1, sto_2, sto_3, sto_4, sto_5, sto_6, sto_7, sto_8, sto_9, sto_10, sto_11, sto_12, sto_13, sto_14, nlo_n, nlo_i, nlo_r, nlo_0, nlo_l, and_self, or_self, Nat.reduceEqDiff, Nat.reduceLT, Nat.reduceLeDiff, Nat.one_ne_zero, Nat.zero_ne_one, n0, s1, s2, c7, g]
  · have e7 : a = 7 := by omega
    subst e7
    have em : (-1 : Int32) < nI 0 := by decide +kernel
    have ea : aI 7 = -1 := rfl
    have eb : aI (abN 7) = -1 := rfl
    rw [ea, eb]
    simp (disch := omega) only [st_130_0, st_130_1, st_130_4, st_130_5, st_130_8, st_130_9, st_130_12, st_130_15, st_130_16, st_130_17, st_130_20, st_130_21, ini_130, fs_cl, fs_len, fs_rf, fs_M, fs_put, fs_cpy, ↓reduceIte, rv_ref, true_or, or_true, true_and, and_true, nI_ltI, ix_nI, nI_clamp, ps_i, ps_n, Option.bind_some, sm_0, sm_1, sm_2, sm_3, sm_4, sto_0, sto_1, sto_2, sto_3, sto_4, sto_5, sto_6, sto_7, sto_8, sto_9, sto_10, sto_11, sto_12, sto_13, sto_14, nlo_n, nlo_i, nlo_r, nlo_0, nlo_l, and_self, or_self, Nat.reduceEqDiff, Nat.reduceLT, Nat.reduceLeDiff, Nat.one_ne_zero, Nat.zero_ne_one, em]
def iok (w : Nat) : Nat → Nat → Bool
  | 0, a => decide (a = w)
  | r + 1, a => if a = w then true else iok w r (abN a)
theorem aI_eq {a w : Nat} (ha : a ≤ 7) (hw : w < 7) : aI a = nI w ↔ a = w := by
  unfold aI
  by_cases c : a < 7
  · rw [if_pos c]; exact nI_eq (by omega) (by omega)
  · rw [if_neg c]
    constructor
    · intro hh; exact absurd hh (m1_ne (by omega))
    · intro hh; omega
theorem c129 (hh : Hd h) (hS : ST M) {a w : Nat} (ha : a ≤ 7) (hw : w < 7) {e : Nat} (he : 2 ≤ e) : j_C e 129 [.int (aI a), .int (nI w)] (FS h M) = some (some (.int (if iok w 7 a = true then nI 1 else nI 0)), FS h M) := by
  obtain ⟨e, rfl⟩ : ∃ d, e = d + 1 := ⟨e - 1, by omega⟩
  have L : ∀ r s a, a ≤ 7 → r + s = 7 → ∀ x : Int32, j_X e 129 4 [some (.int x), some (.int (nI w)), some (.int (aI a)), some (.int (nI s))] [] (FS h M) = some (some (.int (if iok w r a = true then nI 1 else nI 0)), FS h M) := by
    intro r
    induction r with
    | zero =>
      intro s a ha hs x
      have e1 : ¬ s < 7 := by omega
      unfold iok
      rw [st_129_4]
      by_cases c : a = w
      · rw [if_pos (by rw [c]; exact decide_eq_true rfl)]
        simp (disch := omega) only [st_129_0, st_129_1, st_129_2, st_129_3, st_129_5, st_129_7, st_129_10, st_129_11, st_129_12, st_129_15, st_129_16, st_129_19, st_129_20, st_129_23, st_129_26, st_129_27, st_129_28, st_129_31, st_129_32, st_129_35, st_129_36, ini_129, fs_cl, fs_len, fs_rf, fs_M, fs_put, fs_cpy, ↓reduceIte, rv_ref, true_or, or_true, true_and, and_true, nI_ltI, ix_nI, nI_clamp, ps_i, ps_n, Option.bind_some, sm_0, sm_1, sm_2, sm_3, sm_4, sto_0, sto_1, sto_2, sto_3, sto_4, sto_5, sto_6, sto_7, sto_8, sto_9, sto_10, sto_11, sto_12, sto_13, sto_14, nlo_n, nlo_i, nlo_r, nlo_0, nlo_l, and_self, or_self, Nat.reduceEqDiff, Nat.reduceLT, Nat.reduceLeDiff, Nat.one_ne_zero, Nat.zero_ne_one, e1, aI_eq, eq_true c]
      · rw [if_neg (by rw [decide_eq_true_iff]; exact c)]
        simp (disch := omega) only [st_129_0, st_129_1, st_129_2, st_129_3, st_129_5, st_129_7, st_129_10, st_129_11, st_129_12, st_129_15, st_129_16, st_129_19, st_129_20, st_129_23, st_129_26, st_129_27, st_129_28, st_129_31, st_129_32, st_129_35, st_129_36, ini_129, fs_cl, fs_len, fs_rf, fs_M, fs_put, fs_cpy, ↓reduceIte, rv_ref, true_or, or_true, true_and, and_true, nI_ltI, ix_nI, nI_clamp, ps_i, ps_n, Option.bind_some, sm_0, sm_1, sm_2, sm_3, sm_4, sto_0, sto_1, sto_2, sto_3, sto_4, sto_5, sto_6, sto_7, sto_8, sto_9, sto_10, sto_11, sto_12, sto_13, sto_14, nlo_n, nlo_i, nlo_r, nlo_0, nlo_l, and_self, or_self, Nat.reduceEqDiff, Nat.reduceLT, Nat.reduceLeDiff, Nat.one_ne_zero, Nat.zero_ne_one, e1, aI_eq, c]
    | succ r ih =>
      intro s a ha hs x
      have e1 : s < 7 := by omega
      unfold iok
      rw [st_129_4]
      by_cases c : a = w
      · rw [if_pos c, if_pos rfl]
        simp (disch := omega) only [st_129_0, st_129_1, st_129_2, st_129_3, st_129_5, st_129_7, st_129_10, st_129_11, st_129_12, st_129_15, st_129_16, st_129_19, st_129_20, st_129_23, st_129_26, st_129_27, st_129_28, st_129_31, st_129_32, st_129_35, st_129_36, ini_129, fs_cl, fs_len, fs_rf, fs_M, fs_put, fs_cpy, ↓reduceIte, rv_ref, true_or, or_true, true_and, and_true, nI_ltI, ix_nI, nI_clamp, ps_i, ps_n, Option.bind_some, sm_0, sm_1, sm_2, sm_3, sm_4, sto_0, sto_1, sto_2, sto_3, sto_4, sto_5, sto_6, sto_7, sto_8, sto_9, sto_10, sto_11, sto_12, sto_13, sto_14, nlo_n, nlo_i, nlo_r, nlo_0, nlo_l, and_self, or_self, Nat.reduceEqDiff, Nat.reduceLT, Nat.reduceLeDiff, Nat.one_ne_zero, Nat.zero_ne_one, e1, aI_eq, eq_true c]
      · rw [if_neg c]
        have g := c130 hh hS ha (e := e) (by omega)
        have hX := ih (s + 1) (abN a) (abN_le a) (by omega) x
        simp (disch := omega) only [st_129_0, st_129_1, st_129_2, st_129_3, st_129_5, st_129_7, st_129_10, st_129_11, st_129_12, st_129_15, st_129_16, st_129_19, st_129_20, st_129_23, st_129_26, st_129_27, st_129_28, st_129_31, st_129_32, st_129_35, st_129_36, ini_129, fs_cl, fs_len, fs_rf, fs_M, fs_put, fs_cpy, ↓reduceIte, rv_ref, true_or, or_true, true_and, and_true, nI_ltI, ix_nI, nI_clamp, ps_i, ps_n, Option.bind_some, sm_0, sm_1, sm_2, sm_3, sm_4, sto_0, sto_1, sto_2, sto_3, sto_4, sto_5, sto_6, sto_7, sto_8, sto_9, sto_10, sto_11, sto_12, sto_13, sto_14, nlo_n, nlo_i, nlo_r, nlo_0, nlo_l, and_self, or_self, Nat.reduceEqDiff, Nat.reduceLT, Nat.reduceLeDiff, Nat.one_ne_zero, Nat.zero_ne_one, e1, aI_eq, c, g, nI_add, hX]
  have hX := L 7 0 a ha (by omega) (aI a)
  rw [j_C_eq]
  simp only [st_129_0, st_129_1, st_129_2, st_129_3, st_129_5, st_129_7, st_129_10, st_129_11, st_129_12, st_129_15, st_129_16, st_129_19, st_129_20, st_129_23, st_129_26, st_129_27, st_129_28, st_129_31, st_129_32, st_129_35, st_129_36, ini_129, fs_cl, fs_len, fs_rf, fs_M, fs_put, fs_cpy, ↓reduceIte, rv_ref, true_or, or_true, true_and, and_true, nI_ltI, ix_nI, nI_clamp, ps_i, ps_n, Option.bind_some, sm_0, sm_1, sm_2, sm_3, sm_4, sto_0, sto_1, sto_2, sto_3, sto_4, sto_5, sto_6, sto_7, sto_8, sto_9, sto_10, sto_11, sto_12, sto_13, sto_14, nlo_n, nlo_i, nlo_r, nlo_0, nlo_l, and_self, or_self, Nat.reduceEqDiff, Nat.reduceLT, Nat.reduceLeDiff, Nat.one_ne_zero, Nat.zero_ne_one]
  exact hX
theorem iok_v : ∀ a, a < 7 → ∀ w, w < 7 → (iok w 7 a = true ↔ w = 0 ∨ w = a ∨ w = (if a < 4 then 0 else a - 3)) := by decide +kernel
theorem r179 {σ : j_St} {a : Nat} (ha : a < 7) {e : Nat} (he : 1 ≤ e) : j_C e 179 [.int (nI a)] σ = some (some (.int (nI (if a < 4 then 0 else a - 3))), σ) := by
  obtain ⟨e, rfl⟩ : ∃ d, e = d + 1 := ⟨e - 1, by omega⟩
  rw [j_C_eq]
  by_cases c : a < 4
  · rw [if_pos c]
    simp (disch := omega) only [st_179_0, st_179_1, st_179_2, st_179_5, st_179_6, st_179_9, st_179_10, st_179_11, st_179_12, ini_179, fs_cl, fs_len, fs_rf, fs_M, fs_put, fs_cpy, ↓reduceIte, rv_ref, true_or, or_true, true_and, and_true, nI_ltI, ix_nI, nI_clamp, ps_i, ps_n, Option.bind_some, sm_0, sm_1, sm_2, sm_3, sm_4, sto_0, sto_1, sto_2, sto_3, sto_4, sto_5, sto_6, sto_7, sto_8, sto_9, sto_10, sto_11, sto_12, sto_13, sto_14, nlo_n, nlo_i, nlo_r, nlo_0, nlo_l, and_self, or_self, Nat.reduceEqDiff, Nat.reduceLT, Nat.reduceLeDiff, Nat.one_ne_zero, Nat.zero_ne_one, c]
  · rw [if_neg c]
    simp (disch := omega) only [st_179_0, st_179_1, st_179_2, st_179_5, st_179_6, st_179_9, st_179_10, st_179_11, st_179_12, ini_179, fs_cl, fs_len, fs_rf, fs_M, fs_put, fs_cpy, ↓reduceIte, rv_ref, true_or, or_true, true_and, and_true, nI_ltI, ix_nI, nI_clamp, ps_i, ps_n, Option.bind_some, sm_0, sm_1, sm_2, sm_3, sm_4, sto_0, sto_1, sto_2, sto_3, sto_4, sto_5, sto_6, sto_7, sto_8, sto_9, sto_10, sto_11, sto_12, sto_13, sto_14, nlo_n, nlo_i, nlo_r, nlo_0, nlo_l, and_self, or_self, Nat.reduceEqDiff, Nat.reduceLT, Nat.reduceLeDiff, Nat.one_ne_zero, Nat.zero_ne_one, c, nI_sub]
theorem g_as (hh : Hd h) (hi : IE M E z K0 K1 T W) (x y : Int32) : Go h M 84 180 [.int x, .int y] := by
  have w0 := hh.1.1
  have f0 := hh.1.2.1
  have r7 := hh.1.2.2.2.2.2.2.2.1
  have mk := hh.2.1.1
  have th := hh.2.2.2.1.1
  have md : Md h 115 := hh.2.2.2.2.2.2.2.1
  have m0 := md.1
  have q0 := md.2.1.1
  have a1 := md.2.1.2.1
  have a2 := md.2.1.2.2.1
  have hw := hi.1.1
  have h6 := hw.1
  have h8 := hw.2.1
  have hm := hi.2.1.1
  have hs := hm.1
  have hR : RC M 115 E z K0 K1 := hi.2.2.1.1
  have sd := hi.2.2.2.1
  have e10 : ¬ nI 1 = nI 0 := by decide +kernel
  by_cases hx : ∃ j, j < E 0 ∧ x = nI j
  · obtain ⟨t, ht, rfl⟩ := hx
    by_cases hy : ∃ j, 0 ≤ j ∧ j ≤ 6 ∧ y = nI j
    · obtain ⟨w, hw0, hw6, rfl⟩ := hy
      obtain ⟨t1, t2, t3, t4, t5⟩ := hm.2.1 t ht
      have R := mk.2
      have kd := (hw.2.2.2.2.2.2.1 t ht).1
      have hS := hi.2.2.2.2.2.2.2.2.2
      have iv := iok_v _ kd w (by omega)
      have gK : ∀ e, 10 ≤ e → j_C e 33 [.ref 3, .int (nI t)] (FS h M) = some (some (.int (nI (E (8 + 5 * t)))), FS h M) := fun e he => by
        have g := n33ie (M := M) R.1.2 (by omega : t < 6) (e := e) (by omega)
        rw [t1] at g; exact g
      have gI : ∀ e, 10 ≤ e → j_C e 129 [.int (nI (E (8 + 5 * t))), .int (nI w)] (FS h M) = some (some (.int (if iok w 7 (E (8 + 5 * t)) = true then nI 1 else nI 0)), FS h M) := fun e he => by
        have g := c129 hh hS (by omega : E (8 + 5 * t) ≤ 7) (by omega : w < 7) (e := e) (by omega)
        rw [show aI (E (8 + 5 * t)) = nI (E (8 + 5 * t)) by unfold aI; rw [if_pos kd]] at g
        exact g
      have rk : ∀ M', RC M' 115 E z K0 K1 → ∀ e, 10 ≤ e → j_C e 147 [.ref 115, .int (nI t), .int (nI 0)] (FS h M') = some (some (.int (nI (E (8 + 5 * t)))), FS h M') ∧ j_C e 147 [.ref 115, .int (nI t), .int (nI 1)] (FS h M') = some (some (.int (nI (E (9 + 5 * t)))), FS h M') := fun M' hR' e he => by
        have g := r147e (M := M') md (t := t) (k := 0) (by omega) (e := e) (by omega)
        have g2 := r147e (M := M') md (t := t) (k := 1) (by omega) (e := e) (by omega)
        rw [hR'.1.1 _ (by omega) (by omega), show 8 + 5 * t + 0 = 8 + 5 * t by omega] at g
        rw [hR'.1.1 _ (by omega) (by omega), show 8 + 5 * t + 1 = 9 + 5 * t by omega] at g2
        exact ⟨g, g2⟩
      by_cases co : iok w 7 (E (8 + 5 * t)) = true
      · refine go_q hi ?_
        intro e he
        obtain ⟨e, rfl⟩ : ∃ d, e = d + 1 := ⟨e - 1, by omega⟩
        refine ⟨nI (E (9 + 5 * t)), M, M, ?_, cq_r, sd, ?_, rg_r, hR⟩
        · have k8 := c8ye (M := M) mk hs h6 ht (e := e) (by omega)
          have kw := c122e (σ := FS h M) (nI w) (nI 0) (nI 6) (e := e) (by omega)
          rw [wi_in hw0 hw6 (by omega)] at kw
          have g0 := gK e (by omega)
          have gi := gI e (by omega)
          rw [if_pos co] at gi
          have g1 := n33ie (M := M) R.2.1.2 (by omega : t < 6) (e := e) (by omega)
          rw [t2] at g1
          (rw [j_C_eq]; simp (disch := omega) only [st_84_0, st_84_1, st_84_4, st_84_5, st_84_8, st_84_11, st_84_12, st_84_13, st_84_15, st_84_18, st_84_21, st_84_22, st_84_23, st_84_26, st_84_27, st_84_28, st_84_31, st_84_34, st_84_35, st_84_38, st_84_39, st_84_42, st_84_45, st_84_46, st_84_47, st_84_50, st_84_51, st_84_52, st_84_55, st_84_58, st_84_59, st_84_62, ini_84, fs_cl, fs_len, fs_rf, fs_M, fs_put, fs_cpy, ↓reduceIte, rv_ref, true_or, or_true, true_and, and_true, nI_ltI, ix_nI, nI_clamp, ps_i, ps_n, Option.bind_some, sm_0, sm_1, sm_2, sm_3, sm_4, sto_0, sto_1, sto_2, sto_3, sto_4, sto_5, sto_6, sto_7, sto_8, sto_9, sto_10, sto_11, sto_12, sto_13, sto_14, nlo_n, nlo_i, nlo_r, nlo_0, nlo_l, and_self, or_self, Nat.reduceEqDiff, Nat.reduceLT, Nat.reduceLeDiff, Nat.one_ne_zero, Nat.zero_ne_one, w0, f0, r7, m0, q0, a1, a2, e10, mk.1, k8, kw, R.1.1, R.1.2.1, R.2.1.1, R.2.1.2.1, g0, gi, g1])
        · have l8 := r145ye md hR.1 h6 ht (e := e) (by omega)
          have kl := r143e (σ := FS h M) (nI w).toInt64 (lN 0) (lN 6) (e := e) (by omega)
          rw [lin_in hw0 hw6 (by omega)] at kl
          obtain ⟨g0, g1⟩ := rk M hR e (by omega)
          have ga := r179 (σ := FS h M) kd (e := e) (by omega)
          have la : (if E (8 + 5 * t) < 4 then 0 else E (8 + 5 * t) - 3) < 7 := by split <;> omega
          by_cases w0' : w = 0
          · (rw [j_C_eq]; simp (disch := omega) only [st_180_0, st_180_1, st_180_2, st_180_5, st_180_8, st_180_9, st_180_10, st_180_11, st_180_14, st_180_17, st_180_20, st_180_21, st_180_22, st_180_25, st_180_26, st_180_27, st_180_28, st_180_29, st_180_32, st_180_33, st_180_34, st_180_37, st_180_38, st_180_39, st_180_42, st_180_43, st_180_44, st_180_47, st_180_50, st_180_51, st_180_52, st_180_53, st_180_56, st_180_59, st_180_60, st_180_61, st_180_64, ini_180, fs_cl, fs_len, fs_rf, fs_M, fs_put, fs_cpy, ↓reduceIte, rv_ref, true_or, or_true, true_and, and_true, nI_ltI, ix_nI, nI_clamp, ps_i, ps_n, Option.bind_some, sm_0, sm_1, sm_2, sm_3, sm_4, sto_0, sto_1, sto_2, sto_3, sto_4, sto_5, sto_6, sto_7, sto_8, sto_9, sto_10, sto_11, sto_12, sto_13, sto_14, nlo_n, nlo_i, nlo_r, nlo_0, nlo_l, and_self, or_self, Nat.reduceEqDiff, Nat.reduceLT, Nat.reduceLeDiff, Nat.one_ne_zero, Nat.zero_ne_one, w0, f0, r7, m0, q0, a1, a2, e10, l8, kl, g0, g1, nI_eq, eq_true w0'])
          · by_cases w1' : w = E (8 + 5 * t)
            · (rw [j_C_eq]; simp (disch := omega) only [st_180_0, st_180_1, st_180_2, st_180_5, st_180_8, st_180_9, st_180_10, st_180_11, st_180_14, st_180_17, st_180_20, st_180_21, st_180_22, st_180_25, st_180_26, st_180_27, st_180_28, st_180_29, st_180_32, st_180_33, st_180_34, st_180_37, st_180_38, st_180_39, st_180_42, st_180_43, st_180_44, st_180_47, st_180_50, st_180_51, st_180_52, st_180_53, st_180_56, st_180_59, st_180_60, st_180_61, st_180_64, ini_180, fs_cl, fs_len, fs_rf, fs_M, fs_put, fs_cpy, ↓reduceIte, rv_ref, true_or, or_true, true_and, and_true, nI_ltI, ix_nI, nI_clamp, ps_i, ps_n, Option.bind_some, sm_0, sm_1, sm_2, sm_3, sm_4, sto_0, sto_1, sto_2, sto_3, sto_4, sto_5, sto_6, sto_7, sto_8, sto_9, sto_10, sto_11, sto_12, sto_13, sto_14, nlo_n, nlo_i, nlo_r, nlo_0, nlo_l, and_self, or_self, Nat.reduceEqDiff, Nat.reduceLT, Nat.reduceLeDiff, Nat.one_ne_zero, Nat.zero_ne_one, w0, f0, r7, m0, q0, a1, a2, e10, l8, kl, g0, g1, nI_eq, w0', eq_true w1'])
            · have w2' := ((iv.mp co).resolve_left w0').resolve_left w1'
              (rw [j_C_eq]; simp (disch := omega) only [st_180_0, st_180_1, st_180_2, st_180_5, st_180_8, st_180_9, st_180_10, st_180_11, st_180_14, st_180_17, st_180_20, st_180_21, st_180_22, st_180_25, st_180_26, st_180_27, st_180_28, st_180_29, st_180_32, st_180_33, st_180_34, st_180_37, st_180_38, st_180_39, st_180_42, st_180_43, st_180_44, st_180_47, st_180_50, st_180_51, st_180_52, st_180_53, st_180_56, st_180_59, st_180_60, st_180_61, st_180_64, ini_180, fs_cl, fs_len, fs_rf, fs_M, fs_put, fs_cpy, ↓reduceIte, rv_ref, true_or, or_true, true_and, and_true, nI_ltI, ix_nI, nI_clamp, ps_i, ps_n, Option.bind_some, sm_0, sm_1, sm_2, sm_3, sm_4, sto_0, sto_1, sto_2, sto_3, sto_4, sto_5, sto_6, sto_7, sto_8, sto_9, sto_10, sto_11, sto_12, sto_13, sto_14, nlo_n, nlo_i, nlo_r, nlo_0, nlo_l, and_self, or_self, Nat.reduceEqDiff, Nat.reduceLT, Nat.reduceLeDiff, Nat.one_ne_zero, Nat.zero_ne_one, w0, f0, r7, m0, q0, a1, a2, e10, l8, kl, g0, g1, nI_eq, w0', w1', ga, eq_true w2'])
      · refine go_f0 hi (k := 5) ?_
        intro e he
        obtain ⟨e, rfl⟩ : ∃ d, e = d + 1 := ⟨e - 1, by omega⟩
        have k8 := c8ye (M := M) mk hs h6 ht (e := e) (by omega)
        have kw := c122e (σ := FS h M) (nI w) (nI 0) (nI 6) (e := e) (by omega)
        rw [wi_in hw0 hw6 (by omega)] at kw
        have g0 := gK e (by omega)
        have gi := gI e (by omega)
        rw [if_neg co] at gi
        have kf := c119 (M := M) hh (k := 5) (by omega) (e := e) (by omega)
        refine ⟨by (rw [j_C_eq]; simp (disch := omega) only [st_84_0, st_84_1, st_84_4, st_84_5, st_84_8, st_84_11, st_84_12, st_84_13, st_84_15, st_84_18, st_84_21, st_84_22, st_84_23, st_84_26, st_84_27, st_84_28, st_84_31, st_84_34, st_84_35, st_84_38, st_84_39, st_84_42, st_84_45, st_84_46, st_84_47, st_84_50, st_84_51, st_84_52, st_84_55, st_84_58, st_84_59, st_84_62, ini_84, fs_cl, fs_len, fs_rf, fs_M, fs_put, fs_cpy, ↓reduceIte, rv_ref, true_or, or_true, true_and, and_true, nI_ltI, ix_nI, nI_clamp, ps_i, ps_n, Option.bind_some, sm_0, sm_1, sm_2, sm_3, sm_4, sto_0, sto_1, sto_2, sto_3, sto_4, sto_5, sto_6, sto_7, sto_8, sto_9, sto_10, sto_11, sto_12, sto_13, sto_14, nlo_n, nlo_i, nlo_r, nlo_0, nlo_l, and_self, or_self, Nat.reduceEqDiff, Nat.reduceLT, Nat.reduceLeDiff, Nat.one_ne_zero, Nat.zero_ne_one, w0, f0, r7, m0, q0, a1, a2, e10, mk.1, k8, kw, R.1.1, R.1.2.1, g0, gi, kf]), fun M' hR' => ?_⟩
        have l8 := r145ye md hR'.1 h6 ht (e := e) (by omega)
        have kl := r143e (σ := FS h M') (nI w).toInt64 (lN 0) (lN 6) (e := e) (by omega)
        rw [lin_in hw0 hw6 (by omega)] at kl
        obtain ⟨g0, g1⟩ := rk M' hR' e (by omega)
        have ga := r179 (σ := FS h M') kd (e := e) (by omega)
        have la : (if E (8 + 5 * t) < 4 then 0 else E (8 + 5 * t) - 3) < 7 := by split <;> omega
        have kf := r142 (M := M') md (k := 5) (by omega) (e := e) (by omega)
        have w0' : ¬ w = 0 := fun hh => co (iv.mpr (.inl hh))
        have w1' : ¬ w = E (8 + 5 * t) := fun hh => co (iv.mpr (.inr (.inl hh)))
        have w2' : ¬ w = (if E (8 + 5 * t) < 4 then 0 else E (8 + 5 * t) - 3) := fun hh => co (iv.mpr (.inr (.inr hh)))
        (rw [j_C_eq]; simp (disch := omega) only [st_180_0, st_180_1, st_180_2, st_180_5, st_180_8, st_180_9, st_180_10, st_180_11, st_180_14, st_180_17, st_180_20, st_180_21, st_180_22, st_180_25, st_180_26, st_180_27, st_180_28, st_180_29, st_180_32, st_180_33, st_180_34, st_180_37, st_180_38, st_180_39, st_180_42, st_180_43, st_180_44, st_180_47, st_180_50, st_180_51, st_180_52, st_180_53, st_180_56, st_180_59, st_180_60, st_180_61, st_180_64, ini_180, fs_cl, fs_len, fs_rf, fs_M, fs_put, fs_cpy, ↓reduceIte, rv_ref, true_or, or_true, true_and, and_true, nI_ltI, ix_nI, nI_clamp, ps_i, ps_n, Option.bind_some, sm_0, sm_1, sm_2, sm_3, sm_4, sto_0, sto_1, sto_2, sto_3, sto_4, sto_5, sto_6, sto_7, sto_8, sto_9, sto_10, sto_11, sto_12, sto_13, sto_14, nlo_n, nlo_i, nlo_r, nlo_0, nlo_l, and_self, or_self, Nat.reduceEqDiff, Nat.reduceLT, Nat.reduceLeDiff, Nat.one_ne_zero, Nat.zero_ne_one, w0, f0, r7, m0, q0, a1, a2, e10, l8, kl, g0, nI_eq, w0', w1', ga, w2', kf])
    · refine go_f0 hi (k := 1) ?_
      intro e he
      obtain ⟨e, rfl⟩ : ∃ d, e = d + 1 := ⟨e - 1, by omega⟩
      have k8 := c8ye (M := M) mk hs h6 ht (e := e) (by omega)
      have kw := c122e (σ := FS h M) y (nI 0) (nI 6) (e := e) (by omega)
      rw [wi_out hy (by omega) (by omega)] at kw
      have kf := c119 (M := M) hh (k := 1) (by omega) (e := e) (by omega)
      refine ⟨by (rw [j_C_eq]; simp (disch := omega) only [st_84_0, st_84_1, st_84_4, st_84_5, st_84_8, st_84_11, st_84_12, st_84_13, st_84_15, st_84_18, st_84_21, st_84_22, st_84_23, st_84_26, st_84_27, st_84_28, st_84_31, st_84_34, st_84_35, st_84_38, st_84_39, st_84_42, st_84_45, st_84_46, st_84_47, st_84_50, st_84_51, st_84_52, st_84_55, st_84_58, st_84_59, st_84_62, ini_84, fs_cl, fs_len, fs_rf, fs_M, fs_put, fs_cpy, ↓reduceIte, rv_ref, true_or, or_true, true_and, and_true, nI_ltI, ix_nI, nI_clamp, ps_i, ps_n, Option.bind_some, sm_0, sm_1, sm_2, sm_3, sm_4, sto_0, sto_1, sto_2, sto_3, sto_4, sto_5, sto_6, sto_7, sto_8, sto_9, sto_10, sto_11, sto_12, sto_13, sto_14, nlo_n, nlo_i, nlo_r, nlo_0, nlo_l, and_self, or_self, Nat.reduceEqDiff, Nat.reduceLT, Nat.reduceLeDiff, Nat.one_ne_zero, Nat.zero_ne_one, w0, f0, r7, m0, q0, a1, a2, e10, mk.1, k8, kw, kf]), fun M' hR' => ?_⟩
      have l8 := r145ye md hR'.1 h6 ht (e := e) (by omega)
      have kl := r143e (σ := FS h M') y.toInt64 (lN 0) (lN 6) (e := e) (by omega)
      rw [lin_out hy (by omega) (by omega)] at kl
      have kf := r142 (M := M') md (k := 1) (by omega) (e := e) (by omega)
      (rw [j_C_eq]; simp (disch := omega) only [st_180_0, st_180_1, st_180_2, st_180_5, st_180_8, st_180_9, st_180_10, st_180_11, st_180_14, st_180_17, st_180_20, st_180_21, st_180_22, st_180_25, st_180_26, st_180_27, st_180_28, st_180_29, st_180_32, st_180_33, st_180_34, st_180_37, st_180_38, st_180_39, st_180_42, st_180_43, st_180_44, st_180_47, st_180_50, st_180_51, st_180_52, st_180_53, st_180_56, st_180_59, st_180_60, st_180_61, st_180_64, ini_180, fs_cl, fs_len, fs_rf, fs_M, fs_put, fs_cpy, ↓reduceIte, rv_ref, true_or, or_true, true_and, and_true, nI_ltI, ix_nI, nI_clamp, ps_i, ps_n, Option.bind_some, sm_0, sm_1, sm_2, sm_3, sm_4, sto_0, sto_1, sto_2, sto_3, sto_4, sto_5, sto_6, sto_7, sto_8, sto_9, sto_10, sto_11, sto_12, sto_13, sto_14, nlo_n, nlo_i, nlo_r, nlo_0, nlo_l, and_self, or_self, Nat.reduceEqDiff, Nat.reduceLT, Nat.reduceLeDiff, Nat.one_ne_zero, Nat.zero_ne_one, w0, f0, r7, m0, q0, a1, a2, e10, l8, kl, kf])
  · refine go_f0 hi (k := 1) ?_
    intro e he
    obtain ⟨e, rfl⟩ : ∃ d, e = d + 1 := ⟨e - 1, by omega⟩
    have k8 := c8ne (M := M) mk hs h6 hx (e := e) (by omega)
    have kf := c119 (M := M) hh (k := 1) (by omega) (e := e) (by omega)
    refine ⟨by (rw [j_C_eq]; simp (disch := omega) only [st_84_0, st_84_1, st_84_4, st_84_5, st_84_8, st_84_11, st_84_12, st_84_13, st_84_15, st_84_18, st_84_21, st_84_22, st_84_23, st_84_26, st_84_27, st_84_28, st_84_31, st_84_34, st_84_35, st_84_38, st_84_39, st_84_42, st_84_45, st_84_46, st_84_47, st_84_50, st_84_51, st_84_52, st_84_55, st_84_58, st_84_59, st_84_62, ini_84, fs_cl, fs_len, fs_rf, fs_M, fs_put, fs_cpy, ↓reduceIte, rv_ref, true_or, or_true, true_and, and_true, nI_ltI, ix_nI, nI_clamp, ps_i, ps_n, Option.bind_some, sm_0, sm_1, sm_2, sm_3, sm_4, sto_0, sto_1, sto_2, sto_3, sto_4, sto_5, sto_6, sto_7, sto_8, sto_9, sto_10, sto_11, sto_12, sto_13, sto_14, nlo_n, nlo_i, nlo_r, nlo_0, nlo_l, and_self, or_self, Nat.reduceEqDiff, Nat.reduceLT, Nat.reduceLeDiff, Nat.one_ne_zero, Nat.zero_ne_one, w0, f0, r7, m0, q0, a1, a2, e10, mk.1, k8, kf]), fun M' hR' => ?_⟩
    have l8 := r145ne md hR'.1 h6 hx (e := e) (by omega)
    have kf := r142 (M := M') md (k := 1) (by omega) (e := e) (by omega)
    (rw [j_C_eq]; simp (disch := omega) only [st_180_0, st_180_1, st_180_2, st_180_5, st_180_8, st_180_9, st_180_10, st_180_11, st_180_14, st_180_17, st_180_20, st_180_21, st_180_22, st_180_25, st_180_26, st_180_27, st_180_28, st_180_29, st_180_32, st_180_33, st_180_34, st_180_37, st_180_38, st_180_39, st_180_42, st_180_43, st_180_44, st_180_47, st_180_50, st_180_51, st_180_52, st_180_53, st_180_56, st_180_59, st_180_60, st_180_61, st_180_64, ini_180, fs_cl, fs_len, fs_rf, fs_M, fs_put, fs_cpy, ↓reduceIte, rv_ref, true_or, or_true, true_and, and_true, nI_ltI, ix_nI, nI_clamp, ps_i, ps_n, Option.bind_some, sm_0, sm_1, sm_2, sm_3, sm_4, sto_0, sto_1, sto_2, sto_3, sto_4, sto_5, sto_6, sto_7, sto_8, sto_9, sto_10, sto_11, sto_12, sto_13, sto_14, nlo_n, nlo_i, nlo_r, nlo_0, nlo_l, and_self, or_self, Nat.reduceEqDiff, Nat.reduceLT, Nat.reduceLeDiff, Nat.one_ne_zero, Nat.zero_ne_one, w0, f0, r7, m0, q0, a1, a2, e10, l8, kf])
