/-! Both sides: coins, traders, their changes. -/
variable {h : j_Hd} {M M1 M2 : Nat → Nat → Int32} {o : Nat} {E : Nat → Nat} {z : Int32} {K0 K1 : List Int32} {T : Nat → Nat} {W : Nat → Int32}
theorem g_coin (hh : Hd h) (hi : IE M E z K0 K1 T W) (x y : Int32) : Go h M 85 170 [.int x, .int y] := by
  have w0 := hh.1.1
  have f0 := hh.1.2.1
  have r7 := hh.1.2.2.2.2.2.2.2.1
  have mk := hh.2.1.1
  have th := hh.2.2.2.1.1
  have md : Md h 115 := hh.2.2.2.2.2.2.2.1
  have m0 := md.1
  have q0 := md.2.1.1
  have a1 := md.2.1.2.1
  have a2 := md.2.1.2.2.1
  have hw := hi.1.1
  have h6 := hw.1
  have h8 := hw.2.1
  have hm := hi.2.1.1
  have hs := hm.1
  have hR : RC M 115 E z K0 K1 := hi.2.2.1.1
  have sd := hi.2.2.2.1
  have e10 : ¬ nI 1 = nI 0 := by decide +kernel
  by_cases hx : ∃ j, 1 ≤ j ∧ j ≤ 9 ∧ x = nI j
  · obtain ⟨v, hv1, hv, rfl⟩ := hx
    have wi1 := wi_in hv1 hv (by omega : 9 < 2147483648)
    have li1 := lin_in hv1 hv (by omega : 9 < 2147483648)
    by_cases hy : ∃ j, j < E 0 ∧ y = nI j
    · obtain ⟨t, ht, rfl⟩ := hy
      have k7 : ∀ M' : Nat → Nat → Int32, CS M' 2 E → ∀ e, 2 ≤ e → j_C e 7 [.ref 2] (FS h M') = some (some (.int (nI (E 1))), FS h M') := fun M' hs' e he => by
        have := c7e (M := M') mk (e := e) he
        rw [hs'.2.2.2.2.2.1] at this; exact this
      by_cases c8 : E 1 < 8
      · refine go_c hi ?_
        intro e he
        obtain ⟨e, rfl⟩ : ∃ d, e = d + 1 := ⟨e - 1, by omega⟩
        obtain ⟨M1, p1, p2, p3⟩ := c11e mk hm hw (v := v) (t := t) c8 (e := e) (by omega)
        have hR1 := RC_mg p3 hR
        have g1 := hR1.1.1 1 (by omega) (by omega)
        refine ⟨nI (E 1), M1, j_up (j_up (j_up (j_up (j_up (j_up M1 116 (38 + 5 * E 1 + 0) (nI v)) 116 (38 + 5 * E 1 + 1) (nI t)) 116 (38 + 5 * E 1 + 2 + 0) (nI 0)) 116 (38 + 5 * E 1 + 2 + 1) (nI 0)) 116 (38 + 5 * E 1 + 2 + 2) (nI 0)) 116 1 (nI (E 1 + 1)), addC E v t, z, ?_, p2, p3, ?_, ?_, ?_, ⟨addC_WE hw hv1 hv ht c8, ?_, ?_, ?_⟩, ?_, ?_⟩
        · have kw := c122e (σ := FS h M) (nI v) (nI 1) (nI 9) (e := e) (by omega)
          rw [wi1] at kw
          have k8 := c8ye (M := M) mk hs h6 ht (e := e) (by omega)
          have kk := k7 M hs e (by omega)
          (rw [j_C_eq]; simp (disch := omega) only [st_85_0, st_85_1, st_85_2, st_85_4, st_85_7, st_85_10, st_85_11, st_85_14, st_85_15, st_85_18, st_85_21, st_85_22, st_85_23, st_85_26, st_85_27, st_85_28, st_85_31, st_85_34, st_85_36, st_85_39, st_85_40, st_85_41, st_85_44, st_85_45, st_85_46, st_85_49, st_85_50, st_85_51, st_85_54, ini_85, fs_cl, fs_len, fs_rf, fs_M, fs_put, fs_cpy, ↓reduceIte, rv_ref, true_or, or_true, true_and, and_true, nI_ltI, ix_nI, nI_clamp, ps_i, ps_n, Option.bind_some, sm_0, sm_1, sm_2, sm_3, sm_4, sto_0, sto_1, sto_2, sto_3, sto_4, sto_5, sto_6, sto_7, sto_8, sto_9, sto_10, sto_11, sto_12, sto_13, sto_14, nlo_n, nlo_i, nlo_r, nlo_0, nlo_l, and_self, or_self, Nat.reduceEqDiff, Nat.reduceLT, Nat.reduceLeDiff, Nat.one_ne_zero, Nat.zero_ne_one, w0, f0, r7, m0, q0, a1, a2, e10, mk.1, kw, k8, kk, c8, p1])
        · have kw := r143e (σ := FS h M1) (nI v).toInt64 (lN 1) (lN 9) (e := e) (by omega)
          rw [li1] at kw
          have k8 := r145ye md hR1.1 h6 ht (e := e) (by omega)
          have n8 : ¬ E 1 = 8 := by omega
          have b0 : 38 + 5 * E 1 + 0 < 250 := by omega
          have b1 : 38 + 5 * E 1 + 1 < 250 := by omega
          have b2 : 38 + 5 * E 1 + 2 + 0 < 250 := by omega
          have b3 : 38 + 5 * E 1 + 2 + 1 < 250 := by omega
          have b4 : 38 + 5 * E 1 + 2 + 2 < 250 := by omega
          have bz : 1 < 250 := by omega
          have u0 : 0 < 3 := by omega
          have u1 : 1 < 3 := by omega
          have u2 : 2 < 3 := by omega
          have u3 : ¬ 3 < 3 := by omega
          have v1 : nI 0 + nI 1 = nI 1 := nI_add _ _
          have v2 : nI 1 + nI 1 = nI 2 := nI_add _ _
          have v3 : nI 2 + nI 1 = nI 3 := nI_add _ _
          have ge : j_up (j_up (j_up (j_up (j_up M1 (115 + 1) (38 + 5 * E 1 + 0) (nI v)) (115 + 1) (38 + 5 * E 1 + 1) (nI t)) (115 + 1) (38 + 5 * E 1 + 2 + 0) (nI 0)) (115 + 1) (38 + 5 * E 1 + 2 + 1) (nI 0)) (115 + 1) (38 + 5 * E 1 + 2 + 2) (nI 0) (115 + 1) 1 = nI (E 1) := by
            rw [up_k _ _ _ _ (by omega), up_k _ _ _ _ (by omega), up_k _ _ _ _ (by omega), up_k _ _ _ _ (by omega), up_k _ _ _ _ (by omega)]; exact g1
          have hs1 : nI (E 1 + 1) - nI 1 = nI (E 1) := nI_sub (by omega)
          rw [j_C_eq]
          simp (disch := omega) only [st_170_0, st_170_1, st_170_2, st_170_3, st_170_6, st_170_9, st_170_12, st_170_13, st_170_14, st_170_17, st_170_20, st_170_21, st_170_22, st_170_25, st_170_26, st_170_27, st_170_30, st_170_31, st_170_32, st_170_34, st_170_37, st_170_38, st_170_39, st_170_42, st_170_43, st_170_45, st_170_46, st_170_47, st_170_50, st_170_51, st_170_52, st_170_53, st_170_54, st_170_55, st_170_56, st_170_59, st_170_60, st_170_61, st_170_62, st_170_63, st_170_64, st_170_65, st_170_68, st_170_69, st_170_70, st_170_71, st_170_72, st_170_73, st_170_74, st_170_78, st_170_79, st_170_82, st_170_83, st_170_86, st_170_87, st_170_88, st_170_89, st_170_91, st_170_92, st_170_93, st_170_94, st_170_97, st_170_100, st_170_101, st_170_104, st_170_105, st_170_106, st_170_107, st_170_108, st_170_109, st_170_110, st_170_111, st_170_114, st_170_115, st_170_116, st_170_117, st_170_118, ini_170, fs_cl, fs_len, fs_rf, fs_M, fs_put, fs_cpy, ↓reduceIte, rv_ref, true_or, or_true, true_and, and_true, nI_ltI, ix_nI, nI_clamp, ps_i, ps_n, Option.bind_some, sm_0, sm_1, sm_2, sm_3, sm_4, sto_0, sto_1, sto_2, sto_3, sto_4, sto_5, sto_6, sto_7, sto_8, sto_9, sto_10, sto_11, sto_12, sto_13, sto_14, nlo_n, nlo_i, nlo_r, nlo_0, nlo_l, and_self, or_self, Nat.reduceEqDiff, Nat.reduceLT, Nat.reduceLeDiff, Nat.one_ne_zero, Nat.zero_ne_one, w0, f0, m0, q0, a1, a2, e10, kw, k8, g1, nI_eq, n8, nI_mul, nI_add, b0, b1, bz]
          rw [st_170_76]
          simp (disch := omega) only [st_170_0, st_170_1, st_170_2, st_170_3, st_170_6, st_170_9, st_170_12, st_170_13, st_170_14, st_170_17, st_170_20, st_170_21, st_170_22, st_170_25, st_170_26, st_170_27, st_170_30, st_170_31, st_170_32, st_170_34, st_170_37, st_170_38, st_170_39, st_170_42, st_170_43, st_170_45, st_170_46, st_170_47, st_170_50, st_170_51, st_170_52, st_170_53, st_170_54, st_170_55, st_170_56, st_170_59, st_170_60, st_170_61, st_170_62, st_170_63, st_170_64, st_170_65, st_170_68, st_170_69, st_170_70, st_170_71, st_170_72, st_170_73, st_170_74, st_170_78, st_170_79, st_170_82, st_170_83, st_170_86, st_170_87, st_170_88, st_170_89, st_170_91, st_170_92, st_170_93, st_170_94, st_170_97, st_170_100, st_170_101, st_170_104, st_170_105, st_170_106, st_170_107, st_170_108, st_170_109, st_170_110, st_170_111, st_170_114, st_170_115, st_170_116, st_170_117, st_170_118, ini_170, fs_cl, fs_len, fs_rf, fs_M, fs_put, fs_cpy, ↓reduceIte, rv_ref, true_or, or_true, true_and, and_true, nI_ltI, ix_nI, nI_clamp, ps_i, ps_n, Option.bind_some, sm_0, sm_1, sm_2, sm_3, sm_4, sto_0, sto_1, sto_2, sto_3, sto_4, sto_5, sto_6, sto_7, sto_8, sto_9, sto_10, sto_11, sto_12, sto_13, sto_14, nlo_n, nlo_i, nlo_r, nlo_0, nlo_l, and_self, or_self, Nat.reduceEqDiff, Nat.reduceLT, Nat.reduceLeDiff, Nat.one_ne_zero, Nat.zero_ne_one, m0, q0, a1, a2, u0, nI_add, b2, v1]
          rw [st_170_76]
          simp (disch := omega) only [st_170_0, st_170_1, st_170_2, st_170_3, st_170_6, st_170_9, st_170_12, st_170_13, st_170_14, st_170_17, st_170_20, st_170_21, st_170_22, st_170_25, st_170_26, st_170_27, st_170_30, st_170_31, st_170_32, st_170_34, st_170_37, st_170_38, st_170_39, st_170_42, st_170_43, st_170_45, st_170_46, st_170_47, st_170_50, st_170_51, st_170_52, st_170_53, st_170_54, st_170_55, st_170_56, st_170_59, st_170_60, st_170_61, st_170_62, st_170_63, st_170_64, st_170_65, st_170_68, st_170_69, st_170_70, st_170_71, st_170_72, st_170_73, st_170_74, st_170_78, st_170_79, st_170_82, st_170_83, st_170_86, st_170_87, st_170_88, st_170_89, st_170_91, st_170_92, st_170_93, st_170_94, st_170_97, st_170_100, st_170_101, st_170_104, st_170_105, st_170_106, st_170_107, st_170_108, st_170_109, st_170_110, st_170_111, st_170_114, st_170_115, st_170_116, st_170_117, st_170_118, ini_170, fs_cl, fs_len, fs_rf, fs_M, fs_put, fs_cpy, ↓reduceIte, rv_ref, true_or, or_true, true_and, and_true, nI_ltI, ix_nI, nI_clamp, ps_i, ps_n, Option.bind_some, sm_0, sm_1, sm_2, sm_3, sm_4, sto_0, sto_1, sto_2, sto_3, sto_4, sto_5, sto_6, sto_7, sto_8, sto_9, sto_10, sto_11, sto_12, sto_13, sto_14, nlo_n, nlo_i, nlo_r, nlo_0, nlo_l, and_self, or_self, Nat.reduceEqDiff, Nat.reduceLT, Nat.reduceLeDiff, Nat.one_ne_zero, Nat.zero_ne_one, m0, q0, a1, a2, u1, v2, nI_add, b3]
          rw [st_170_76]
          simp (disch := omega) only [st_170_0, st_170_1, st_170_2, st_170_3, st_170_6, st_170_9, st_170_12, st_170_13, st_170_14, st_170_17, st_170_20, st_170_21, st_170_22, st_170_25, st_170_26, st_170_27, st_170_30, st_170_31, st_170_32, st_170_34, st_170_37, st_170_38, st_170_39, st_170_42, st_170_43, st_170_45, st_170_46, st_170_47, st_170_50, st_170_51, st_170_52, st_170_53, st_170_54, st_170_55, st_170_56, st_170_59, st_170_60, st_170_61, st_170_62, st_170_63, st_170_64, st_170_65, st_170_68, st_170_69, st_170_70, st_170_71, st_170_72, st_170_73, st_170_74, st_170_78, st_170_79, st_170_82, st_170_83, st_170_86, st_170_87, st_170_88, st_170_89, st_170_91, st_170_92, st_170_93, st_170_94, st_170_97, st_170_100, st_170_101, st_170_104, st_170_105, st_170_106, st_170_107, st_170_108, st_170_109, st_170_110, st_170_111, st_170_114, st_170_115, st_170_116, st_170_117, st_170_118, ini_170, fs_cl, fs_len, fs_rf, fs_M, fs_put, fs_cpy, ↓reduceIte, rv_ref, true_or, or_true, true_and, and_true, nI_ltI, ix_nI, nI_clamp, ps_i, ps_n, Option.bind_some, sm_0, sm_1, sm_2, sm_3, sm_4, sto_0, sto_1, sto_2, sto_3, sto_4, sto_5, sto_6, sto_7, sto_8, sto_9, sto_10, sto_11, sto_12, sto_13, sto_14, nlo_n, nlo_i, nlo_r, nlo_0, nlo_l, and_self, or_self, Nat.reduceEqDiff, Nat.reduceLT, Nat.reduceLeDiff, Nat.one_ne_zero, Nat.zero_ne_one, m0, q0, a1, a2, u2, v3, nI_add, b4]
          rw [st_170_76]
          simp (disch := omega) only [st_170_0, st_170_1, st_170_2, st_170_3, st_170_6, st_170_9, st_170_12, st_170_13, st_170_14, st_170_17, st_170_20, st_170_21, st_170_22, st_170_25, st_170_26, st_170_27, st_170_30, st_170_31, st_170_32, st_170_34, st_170_37, st_170_38, st_170_39, st_170_42, st_170_43, st_170_45, st_170_46, st_170_47, st_170_50, st_170_51, st_170_52, st_170_53, st_170_54, st_170_55, st_170_56, st_170_59, st_170_60, st_170_61, st_170_62, st_170_63, st_170_64, st_170_65, st_170_68, st_170_69, st_170_70, st_170_71, st_170_72, st_170_73, st_170_74, st_170_78, st_170_79, st_170_82, st_170_83, st_170_86, st_170_87, st_170_88, st_170_89, st_170_91, st_170_92, st_170_93, st_170_94, st_170_97, st_170_100, st_170_101, st_170_104, st_170_105, st_170_106, st_170_107, st_170_108, st_170_109, st_170_110, st_170_111, st_170_114, st_170_115, st_170_116, st_170_117, st_170_118, ini_170, fs_cl, fs_len, fs_rf, fs_M, fs_put, fs_cpy, ↓reduceIte, rv_ref, true_or, or_true, true_and, and_true, nI_ltI, ix_nI, nI_clamp, ps_i, ps_n, Option.bind_some, sm_0, sm_1, sm_2, sm_3, sm_4, sto_0, sto_1, sto_2, sto_3, sto_4, sto_5, sto_6, sto_7, sto_8, sto_9, sto_10, sto_11, sto_12, sto_13, sto_14, nlo_n, nlo_i, nlo_r, nlo_0, nlo_l, and_self, or_self, Nat.reduceEqDiff, Nat.reduceLT, Nat.reduceLeDiff, Nat.one_ne_zero, Nat.zero_ne_one, m0, q0, a1, a2, u3, ge, bz, nI_add, up_s, hs1]
        · exact rg_t (rg_ld (o := 115) (ld_up (by omega))) (rg_t (rg_ld (o := 115) (ld_up (by omega))) (rg_t (rg_ld (o := 115) (ld_up (by omega))) (rg_t (rg_ld (o := 115) (ld_up (by omega))) (rg_t (rg_ld (o := 115) (ld_up (by omega))) (rg_ld (o := 115) (ld_up (by omega)))))))
        · refine RC_ld (o := 115) (ld_t (ld_up (by omega)) (ld_t (ld_up (by omega)) (ld_t (ld_up (by omega)) (ld_t (ld_up (by omega)) (ld_t (ld_up (by omega)) (ld_up (by omega))))))) ?_ hR1
          refine RLd_cg (RLd_up (o := 115) (RLd_up (o := 115) (RLd_up (o := 115) (RLd_up (o := 115) (RLd_up (o := 115) (RLd_up (o := 115) hR1.1 (by omega)) (by omega)) (by omega)) (by omega)) (by omega)) (by omega)) (fun j hj => ?_)
          unfold addC upR upE
          rw [show 38 + 5 * E 1 + 2 + 2 = 42 + 5 * E 1 by omega, show 38 + 5 * E 1 + 2 + 1 = 41 + 5 * E 1 by omega, show 38 + 5 * E 1 + 2 + 0 = 40 + 5 * E 1 by omega, show 38 + 5 * E 1 + 1 = 39 + 5 * E 1 by omega, show 38 + 5 * E 1 + 0 = 38 + 5 * E 1 by omega]
          by_cases j0 : j = 1
          · rw [if_pos j0, if_neg (show ¬ j = 42 + 5 * E 1 by omega), if_neg (show ¬ j = 41 + 5 * E 1 by omega), if_neg (show ¬ j = 40 + 5 * E 1 by omega), if_neg (show ¬ j = 39 + 5 * E 1 by omega), if_neg (show ¬ j = 38 + 5 * E 1 by omega), if_pos j0]
          · rw [if_neg j0, if_neg j0]
        · rw [addC_o (by omega) (by omega)]; exact hi.1.2.1
        · rw [addC_o (by omega) (by omega)]; exact hi.1.2.2.1
        · rw [addC_o (by omega) (by omega)]; exact hi.1.2.2.2
        · exact addC_o (by omega) (by omega)
        · exact addC_o (by omega) (by omega)
      · refine go_f0 hi (k := 4) ?_
        intro e he
        obtain ⟨e, rfl⟩ : ∃ d, e = d + 1 := ⟨e - 1, by omega⟩
        have kw := c122e (σ := FS h M) (nI v) (nI 1) (nI 9) (e := e) (by omega)
        rw [wi1] at kw
        have k8 := c8ye (M := M) mk hs h6 ht (e := e) (by omega)
        have kk := k7 M hs e (by omega)
        have kf := c119 (M := M) hh (k := 4) (by omega) (e := e) (by omega)
        refine ⟨by (rw [j_C_eq]; simp (disch := omega) only [st_85_0, st_85_1, st_85_2, st_85_4, st_85_7, st_85_10, st_85_11, st_85_14, st_85_15, st_85_18, st_85_21, st_85_22, st_85_23, st_85_26, st_85_27, st_85_28, st_85_31, st_85_34, st_85_36, st_85_39, st_85_40, st_85_41, st_85_44, st_85_45, st_85_46, st_85_49, st_85_50, st_85_51, st_85_54, ini_85, fs_cl, fs_len, fs_rf, fs_M, fs_put, fs_cpy, ↓reduceIte, rv_ref, true_or, or_true, true_and, and_true, nI_ltI, ix_nI, nI_clamp, ps_i, ps_n, Option.bind_some, sm_0, sm_1, sm_2, sm_3, sm_4, sto_0, sto_1, sto_2, sto_3, sto_4, sto_5, sto_6, sto_7, sto_8, sto_9, sto_10, sto_11, sto_12, sto_13, sto_14, nlo_n, nlo_i, nlo_r, nlo_0, nlo_l, and_self, or_self, Nat.reduceEqDiff, Nat.reduceLT, Nat.reduceLeDiff, Nat.one_ne_zero, Nat.zero_ne_one, w0, f0, r7, m0, q0, a1, a2, e10, mk.1, kw, k8, kk, c8, kf]), fun M' hR' => ?_⟩
        have kw := r143e (σ := FS h M') (nI v).toInt64 (lN 1) (lN 9) (e := e) (by omega)
        rw [li1] at kw
        have k8 := r145ye md hR'.1 h6 ht (e := e) (by omega)
        have g1 := hR'.1.1 1 (by omega) (by omega)
        have n8 : E 1 = 8 := by omega
        rw [n8] at g1
        have kf := r142 (M := M') md (k := 4) (by omega) (e := e) (by omega)
        (rw [j_C_eq]; simp (disch := omega) only [st_170_0, st_170_1, st_170_2, st_170_3, st_170_6, st_170_9, st_170_12, st_170_13, st_170_14, st_170_17, st_170_20, st_170_21, st_170_22, st_170_25, st_170_26, st_170_27, st_170_30, st_170_31, st_170_32, st_170_34, st_170_37, st_170_38, st_170_39, st_170_42, st_170_43, st_170_45, st_170_46, st_170_47, st_170_50, st_170_51, st_170_52, st_170_53, st_170_54, st_170_55, st_170_56, st_170_59, st_170_60, st_170_61, st_170_62, st_170_63, st_170_64, st_170_65, st_170_68, st_170_69, st_170_70, st_170_71, st_170_72, st_170_73, st_170_74, st_170_78, st_170_79, st_170_82, st_170_83, st_170_86, st_170_87, st_170_88, st_170_89, st_170_91, st_170_92, st_170_93, st_170_94, st_170_97, st_170_100, st_170_101, st_170_104, st_170_105, st_170_106, st_170_107, st_170_108, st_170_109, st_170_110, st_170_111, st_170_114, st_170_115, st_170_116, st_170_117, st_170_118, ini_170, fs_cl, fs_len, fs_rf, fs_M, fs_put, fs_cpy, ↓reduceIte, rv_ref, true_or, or_true, true_and, and_true, nI_ltI, ix_nI, nI_clamp, ps_i, ps_n, Option.bind_some, sm_0, sm_1, sm_2, sm_3, sm_4, sto_0, sto_1, sto_2, sto_3, sto_4, sto_5, sto_6, sto_7, sto_8, sto_9, sto_10, sto_11, sto_12, sto_13, sto_14, nlo_n, nlo_i, nlo_r, nlo_0, nlo_l, and_self, or_self, Nat.reduceEqDiff, Nat.reduceLT, Nat.reduceLeDiff, Nat.one_ne_zero, Nat.zero_ne_one, w0, f0, r7, m0, q0, a1, a2, e10, kw, k8, g1, kf])
    · refine go_f0 hi (k := 1) ?_
      intro e he
      obtain ⟨e, rfl⟩ : ∃ d, e = d + 1 := ⟨e - 1, by omega⟩
      have kw := c122e (σ := FS h M) (nI v) (nI 1) (nI 9) (e := e) (by omega)
      rw [wi1] at kw
      have k8 := c8ne (M := M) mk hs h6 hy (e := e) (by omega)
      have kf := c119 (M := M) hh (k := 1) (by omega) (e := e) (by omega)
      refine ⟨by (rw [j_C_eq]; simp (disch := omega) only [st_85_0, st_85_1, st_85_2, st_85_4, st_85_7, st_85_10, st_85_11, st_85_14, st_85_15, st_85_18, st_85_21, st_85_22, st_85_23, st_85_26, st_85_27, st_85_28, st_85_31, st_85_34, st_85_36, st_85_39, st_85_40, st_85_41, st_85_44, st_85_45, st_85_46, st_85_49, st_85_50, st_85_51, st_85_54, ini_85, fs_cl, fs_len, fs_rf, fs_M, fs_put, fs_cpy, ↓reduceIte, rv_ref, true_or, or_true, true_and, and_true, nI_ltI, ix_nI, nI_clamp, ps_i, ps_n, Option.bind_some, sm_0, sm_1, sm_2, sm_3, sm_4, sto_0, sto_1, sto_2, sto_3, sto_4, sto_5, sto_6, sto_7, sto_8, sto_9, sto_10, sto_11, sto_12, sto_13, sto_14, nlo_n, nlo_i, nlo_r, nlo_0, nlo_l, and_self, or_self, Nat.reduceEqDiff, Nat.reduceLT, Nat.reduceLeDiff, Nat.one_ne_zero, Nat.zero_ne_one, w0, f0, r7, m0, q0, a1, a2, e10, mk.1, kw, k8, kf]), fun M' hR' => ?_⟩
      have kw := r143e (σ := FS h M') (nI v).toInt64 (lN 1) (lN 9) (e := e) (by omega)
      rw [li1] at kw
      have k8 := r145ne md hR'.1 h6 hy (e := e) (by omega)
      have kf := r142 (M := M') md (k := 1) (by omega) (e := e) (by omega)
      (rw [j_C_eq]; simp (disch := omega) only [st_170_0, st_170_1, st_170_2, st_170_3, st_170_6, st_170_9, st_170_12, st_170_13, st_170_14, st_170_17, st_170_20, st_170_21, st_170_22, st_170_25, st_170_26, st_170_27, st_170_30, st_170_31, st_170_32, st_170_34, st_170_37, st_170_38, st_170_39, st_170_42, st_170_43, st_170_45, st_170_46, st_170_47, st_170_50, st_170_51, st_170_52, st_170_53, st_170_54, st_170_55, st_170_56, st_170_59, st_170_60, st_170_61, st_170_62, st_170_63, st_170_64, st_170_65, st_170_68, st_170_69, st_170_70, st_170_71, st_170_72, st_170_73, st_170_74, st_170_78, st_170_79, st_170_82, st_170_83, st_170_86, st_170_87, st_170_88, st_170_89, st_170_91, st_170_92, st_170_93, st_170_94, st_170_97, st_170_100, st_170_101, st_170_104, st_170_105, st_170_106, st_170_107, st_170_108, st_170_109, st_170_110, st_170_111, st_170_114, st_170_115, st_170_116, st_170_117, st_170_118, ini_170, fs_cl, fs_len, fs_rf, fs_M, fs_put, fs_cpy, ↓reduceIte, rv_ref, true_or, or_true, true_and, and_true, nI_ltI, ix_nI, nI_clamp, ps_i, ps_n, Option.bind_some, sm_0, sm_1, sm_2, sm_3, sm_4, sto_0, sto_1, sto_2, sto_3, sto_4, sto_5, sto_6, sto_7, sto_8, sto_9, sto_10, sto_11, sto_12, sto_13, sto_14, nlo_n, nlo_i, nlo_r, nlo_0, nlo_l, and_self, or_self, Nat.reduceEqDiff, Nat.reduceLT, Nat.reduceLeDiff, Nat.one_ne_zero, Nat.zero_ne_one, w0, f0, r7, m0, q0, a1, a2, e10, kw, k8, kf])
  · refine go_f0 hi (k := 1) ?_
    intro e he
    obtain ⟨e, rfl⟩ : ∃ d, e = d + 1 := ⟨e - 1, by omega⟩
    have kw := c122e (σ := FS h M) x (nI 1) (nI 9) (e := e) (by omega)
    rw [wi_out hx (by omega) (by omega)] at kw
    have kf := c119 (M := M) hh (k := 1) (by omega) (e := e) (by omega)
    refine ⟨by (rw [j_C_eq]; simp (disch := omega) only [st_85_0, st_85_1, st_85_2, st_85_4, st_85_7, st_85_10, st_85_11, st_85_14, st_85_15, st_85_18, st_85_21, st_85_22, st_85_23, st_85_26, st_85_27, st_85_28, st_85_31, st_85_34, st_85_36, st_85_39, st_85_40, st_85_41, st_85_44, st_85_45, st_85_46, st_85_49, st_85_50, st_85_51, st_85_54, ini_85, fs_cl, fs_len, fs_rf, fs_M, fs_put, fs_cpy, ↓reduceIte, rv_ref, true_or, or_true, true_and, and_true, nI_ltI, ix_nI, nI_clamp, ps_i, ps_n, Option.bind_some, sm_0, sm_1, sm_2, sm_3, sm_4, sto_0, sto_1, sto_2, sto_3, sto_4, sto_5, sto_6, sto_7, sto_8, sto_9, sto_10, sto_11, sto_12, sto_13, sto_14, nlo_n, nlo_i, nlo_r, nlo_0, nlo_l, and_self, or_self, Nat.reduceEqDiff, Nat.reduceLT, Nat.reduceLeDiff, Nat.one_ne_zero, Nat.zero_ne_one, w0, f0, r7, m0, q0, a1, a2, e10, kw, kf]), fun M' hR' => ?_⟩
    have kw := r143e (σ := FS h M') x.toInt64 (lN 1) (lN 9) (e := e) (by omega)
    rw [lin_out hx (by omega) (by omega)] at kw
    have kf := r142 (M := M') md (k := 1) (by omega) (e := e) (by omega)
    (rw [j_C_eq]; simp (disch := omega) only [st_170_0, st_170_1, st_170_2, st_170_3, st_170_6, st_170_9, st_170_12, st_170_13, st_170_14, st_170_17, st_170_20, st_170_21, st_170_22, st_170_25, st_170_26, st_170_27, st_170_30, st_170_31, st_170_32, st_170_34, st_170_37, st_170_38, st_170_39, st_170_42, st_170_43, st_170_45, st_170_46, st_170_47, st_170_50, st_170_51, st_170_52, st_170_53, st_170_54, st_170_55, st_170_56, st_170_59, st_170_60, st_170_61, st_170_62, st_170_63, st_170_64, st_170_65, st_170_68, st_170_69, st_170_70, st_170_71, st_170_72, st_170_73, st_170_74, st_170_78, st_170_79, st_170_82, st_170_83, st_170_86, st_170_87, st_170_88, st_170_89, st_170_91, st_170_92, st_170_93, st_170_94, st_170_97, st_170_100, st_170_101, st_170_104, st_170_105, st_170_106, st_170_107, st_170_108, st_170_109, st_170_110, st_170_111, st_170_114, st_170_115, st_170_116, st_170_117, st_170_118, ini_170, fs_cl, fs_len, fs_rf, fs_M, fs_put, fs_cpy, ↓reduceIte, rv_ref, true_or, or_true, true_and, and_true, nI_ltI, ix_nI, nI_clamp, ps_i, ps_n, Option.bind_some, sm_0, sm_1, sm_2, sm_3, sm_4, sto_0, sto_1, sto_2, sto_3, sto_4, sto_5, sto_6, sto_7, sto_8, sto_9, sto_10, sto_11, sto_12, sto_13, sto_14, nlo_n, nlo_i, nlo_r, nlo_0, nlo_l, and_self, or_self, Nat.reduceEqDiff, Nat.reduceLT, Nat.reduceLeDiff, Nat.one_ne_zero, Nat.zero_ne_one, w0, f0, r7, m0, q0, a1, a2, e10, kw, kf])
theorem n_ne {x : Int32} {n : Nat} (hx : ¬ ∃ j, 0 ≤ j ∧ j ≤ n ∧ x = nI j) {j : Nat} (hj : j ≤ n) : ¬ x = nI j := fun e => hx ⟨j, Nat.zero_le _, hj, e⟩
theorem g_ofTrader (hh : Hd h) (hi : IE M E z K0 K1 T W) (x y : Int32) : Go h M 81 176 [.int x, .int y] := by
  have w0 := hh.1.1
  have f0 := hh.1.2.1
  have r7 := hh.1.2.2.2.2.2.2.2.1
  have mk := hh.2.1.1
  have th := hh.2.2.2.1.1
  have md : Md h 115 := hh.2.2.2.2.2.2.2.1
  have m0 := md.1
  have q0 := md.2.1.1
  have a1 := md.2.1.2.1
  have a2 := md.2.1.2.2.1
  have hw := hi.1.1
  have h6 := hw.1
  have h8 := hw.2.1
  have hm := hi.2.1.1
  have hs := hm.1
  have hR : RC M 115 E z K0 K1 := hi.2.2.1.1
  have sd := hi.2.2.2.1
  have e10 : ¬ nI 1 = nI 0 := by decide +kernel
  by_cases hx : ∃ j, j < E 0 ∧ x = nI j
  · obtain ⟨t, ht, rfl⟩ := hx
    obtain ⟨t1, t2, t3, t4, t5⟩ := hm.2.1 t ht
    have R := mk.2
    by_cases hy : ∃ j, 0 ≤ j ∧ j ≤ 5 ∧ y = nI j
    · obtain ⟨k, hk0, hk, rfl⟩ := hy
      refine go_q hi ?_
      intro e he
      obtain ⟨e, rfl⟩ : ∃ d, e = d + 1 := ⟨e - 1, by omega⟩
      have k8 := c8ye (M := M) mk hs h6 ht (e := e) (by omega)
      have l8 := r145ye md hR.1 h6 ht (e := e) (by omega)
      have kl := r143e (σ := FS h M) (nI k).toInt64 (lN 0) (lN 5) (e := e) (by omega)
      rw [lin_in hk0 hk (by omega)] at kl
      by_cases k5 : k = 5
      · subst k5
        have p := c13e mk hm hw (by omega : t < 10) (e := e) (by omega)
        have q := r175e md hR.1 hw (by omega : t < 10) (e := e) (by omega)
        have f5 : ¬ 5 < 5 := by omega
        refine ⟨hbS E t (E 1), M, M, ?_, cq_r, sd, ?_, rg_r, hR⟩
        · (rw [j_C_eq]; simp (disch := omega) only [st_81_0, st_81_1, st_81_4, st_81_5, st_81_8, st_81_11, st_81_12, st_81_13, st_81_16, st_81_17, st_81_18, st_81_56, st_81_57, st_81_60, st_81_63, st_81_64, st_81_67, st_81_68, st_81_69, st_81_72, st_81_75, st_81_76, st_81_79, st_81_80, st_81_81, st_81_84, st_81_87, st_81_88, st_81_91, st_81_92, st_81_93, st_81_96, st_81_99, st_81_100, st_81_103, st_81_104, st_81_105, st_81_108, st_81_111, st_81_112, st_81_115, st_81_116, st_81_117, st_81_120, st_81_121, st_81_124, st_81_125, st_81_126, st_81_127, st_81_130, ini_81, fs_cl, fs_len, fs_rf, fs_M, fs_put, fs_cpy, ↓reduceIte, rv_ref, true_or, or_true, true_and, and_true, nI_ltI, ix_nI, nI_clamp, ps_i, ps_n, Option.bind_some, sm_0, sm_1, sm_2, sm_3, sm_4, sto_0, sto_1, sto_2, sto_3, sto_4, sto_5, sto_6, sto_7, sto_8, sto_9, sto_10, sto_11, sto_12, sto_13, sto_14, nlo_n, nlo_i, nlo_r, nlo_0, nlo_l, and_self, or_self, Nat.reduceEqDiff, Nat.reduceLT, Nat.reduceLeDiff, Nat.one_ne_zero, Nat.zero_ne_one, w0, f0, r7, m0, q0, a1, a2, e10, mk.1, k8, nI_eq, p])
        · (rw [j_C_eq]; simp (disch := omega) only [st_176_0, st_176_1, st_176_2, st_176_5, st_176_8, st_176_9, st_176_10, st_176_11, st_176_14, st_176_17, st_176_20, st_176_21, st_176_22, st_176_25, st_176_26, st_176_27, st_176_28, st_176_31, st_176_32, st_176_33, st_176_34, st_176_37, st_176_40, st_176_41, st_176_42, st_176_45, ini_176, fs_cl, fs_len, fs_rf, fs_M, fs_put, fs_cpy, ↓reduceIte, rv_ref, true_or, or_true, true_and, and_true, nI_ltI, ix_nI, nI_clamp, ps_i, ps_n, Option.bind_some, sm_0, sm_1, sm_2, sm_3, sm_4, sto_0, sto_1, sto_2, sto_3, sto_4, sto_5, sto_6, sto_7, sto_8, sto_9, sto_10, sto_11, sto_12, sto_13, sto_14, nlo_n, nlo_i, nlo_r, nlo_0, nlo_l, and_self, or_self, Nat.reduceEqDiff, Nat.reduceLT, Nat.reduceLeDiff, Nat.one_ne_zero, Nat.zero_ne_one, w0, f0, r7, m0, q0, a1, a2, e10, l8, kl, f5, q])
      · have k5 : k < 5 := by omega
        refine ⟨nI (E (8 + 5 * t + k)), M, M, ?_, cq_r, sd, ?_, rg_r, hR⟩
        · have g0 := n33ie (M := M) R.1.2 (by omega : t < 6) (e := e) (by omega)
          have g1 := n33ie (M := M) R.2.1.2 (by omega : t < 6) (e := e) (by omega)
          have g2 := n33ie (M := M) R.2.2.1.2 (by omega : t < 6) (e := e) (by omega)
          have g3 := n33ie (M := M) R.2.2.2.1.2 (by omega : t < 6) (e := e) (by omega)
          have g4 := n33ie (M := M) R.2.2.2.2.1.2 (by omega : t < 6) (e := e) (by omega)
          rw [t1] at g0
          rw [t2] at g1
          rw [t3] at g2
          rw [t4] at g3
          rw [t5] at g4
          have hk5 : k = 0 ∨ k = 1 ∨ k = 2 ∨ k = 3 ∨ k = 4 := by omega
          rcases hk5 with e5 | e5 | e5 | e5 | e5
          · subst e5
            rw [show 8 + 5 * t + 0 = 8 + 5 * t by omega]
            (rw [j_C_eq]; simp (disch := omega) only [st_81_0, st_81_1, st_81_4, st_81_5, st_81_8, st_81_11, st_81_12, st_81_13, st_81_16, st_81_17, st_81_18, st_81_56, st_81_57, st_81_60, st_81_63, st_81_64, st_81_67, st_81_68, st_81_69, st_81_72, st_81_75, st_81_76, st_81_79, st_81_80, st_81_81, st_81_84, st_81_87, st_81_88, st_81_91, st_81_92, st_81_93, st_81_96, st_81_99, st_81_100, st_81_103, st_81_104, st_81_105, st_81_108, st_81_111, st_81_112, st_81_115, st_81_116, st_81_117, st_81_120, st_81_121, st_81_124, st_81_125, st_81_126, st_81_127, st_81_130, ini_81, fs_cl, fs_len, fs_rf, fs_M, fs_put, fs_cpy, ↓reduceIte, rv_ref, true_or, or_true, true_and, and_true, nI_ltI, ix_nI, nI_clamp, ps_i, ps_n, Option.bind_some, sm_0, sm_1, sm_2, sm_3, sm_4, sto_0, sto_1, sto_2, sto_3, sto_4, sto_5, sto_6, sto_7, sto_8, sto_9, sto_10, sto_11, sto_12, sto_13, sto_14, nlo_n, nlo_i, nlo_r, nlo_0, nlo_l, and_self, or_self, Nat.reduceEqDiff, Nat.reduceLT, Nat.reduceLeDiff, Nat.one_ne_zero, Nat.zero_ne_one, w0, f0, r7, m0, q0, a1, a2, e10, mk.1, k8, nI_eq, R.1.1, R.1.2.1, g0])
          · subst e5
            rw [show 8 + 5 * t + 1 = 9 + 5 * t by omega]
            (rw [j_C_eq]; simp (disch := omega) only [st_81_0, st_81_1, st_81_4, st_81_5, st_81_8, st_81_11, st_81_12, st_81_13, st_81_16, st_81_17, st_81_18, st_81_56, st_81_57, st_81_60, st_81_63, st_81_64, st_81_67, st_81_68, st_81_69, st_81_72, st_81_75, st_81_76, st_81_79, st_81_80, st_81_81, st_81_84, st_81_87, st_81_88, st_81_91, st_81_92, st_81_93, st_81_96, st_81_99, st_81_100, st_81_103, st_81_104, st_81_105, st_81_108, st_81_111, st_81_112, st_81_115, st_81_116, st_81_117, st_81_120, st_81_121, st_81_124, st_81_125, st_81_126, st_81_127, st_81_130, ini_81, fs_cl, fs_len, fs_rf, fs_M, fs_put, fs_cpy, ↓reduceIte, rv_ref, true_or, or_true, true_and, and_true, nI_ltI, ix_nI, nI_clamp, ps_i, ps_n, Option.bind_some, sm_0, sm_1, sm_2, sm_3, sm_4, sto_0, sto_1, sto_2, sto_3, sto_4, sto_5, sto_6, sto_7, sto_8, sto_9, sto_10, sto_11, sto_12, sto_13, sto_14, nlo_n, nlo_i, nlo_r, nlo_0, nlo_l, and_self, or_self, Nat.reduceEqDiff, Nat.reduceLT, Nat.reduceLeDiff, Nat.one_ne_zero, Nat.zero_ne_one, w0, f0, r7, m0, q0, a1, a2, e10, mk.1, k8, nI_eq, R.2.1.1, R.2.1.2.1, g1])
          · subst e5
            rw [show 8 + 5 * t + 2 = 10 + 5 * t by omega]
            (rw [j_C_eq]; simp (disch := omega) only [st_81_0, st_81_1, st_81_4, st_81_5, st_81_8, st_81_11, st_81_12, st_81_13, st_81_16, st_81_17, st_81_18, st_81_56, st_81_57, st_81_60, st_81_63, st_81_64, st_81_67, st_81_68, st_81_69, st_81_72, st_81_75, st_81_76, st_81_79, st_81_80, st_81_81, st_81_84, st_81_87, st_81_88, st_81_91, st_81_92, st_81_93, st_81_96, st_81_99, st_81_100, st_81_103, st_81_104, st_81_105, st_81_108, st_81_111, st_81_112, st_81_115, st_81_116, st_81_117, st_81_120, st_81_121, st_81_124, st_81_125, st_81_126, st_81_127, st_81_130, ini_81, fs_cl, fs_len, fs_rf, fs_M, fs_put, fs_cpy, ↓reduceIte, rv_ref, true_or, or_true, true_and, and_true, nI_ltI, ix_nI, nI_clamp, ps_i, ps_n, Option.bind_some, sm_0, sm_1, sm_2, sm_3, sm_4, sto_0, sto_1, sto_2, sto_3, sto_4, sto_5, sto_6, sto_7, sto_8, sto_9, sto_10, sto_11, sto_12, sto_13, sto_14, nlo_n, nlo_i, nlo_r, nlo_0, nlo_l, and_self, or_self, Nat.reduceEqDiff, Nat.reduceLT, Nat.reduceLeDiff, Nat.one_ne_zero, Nat.zero_ne_one, w0, f0, r7, m0, q0, a1, a2, e10, mk.1, k8, nI_eq, R.2.2.1.1, R.2.2.1.2.1, g2])
          · subst e5
            rw [show 8 + 5 * t + 3 = 11 + 5 * t by omega]
            (rw [j_C_eq]; simp (disch := omega) only [st_81_0, st_81_1, st_81_4, st_81_5, st_81_8, st_81_11, st_81_12, st_81_13, st_81_16, st_81_17, st_81_18, st_81_56, st_81_57, st_81_60, st_81_63, st_81_64, st_81_67, st_81_68, st_81_69, st_81_72, st_81_75, st_81_76, st_81_79, st_81_80, st_81_81, st_81_84, st_81_87, st_81_88, st_81_91, st_81_92, st_81_93, st_81_96, st_81_99, st_81_100, st_81_103, st_81_104, st_81_105, st_81_108, st_81_111, st_81_112, st_81_115, st_81_116, st_81_117, st_81_120, st_81_121, st_81_124, st_81_125, st_81_126, st_81_127, st_81_130, ini_81, fs_cl, fs_len, fs_rf, fs_M, fs_put, fs_cpy, ↓reduceIte, rv_ref, true_or, or_true, true_and, and_true, nI_ltI, ix_nI, nI_clamp, ps_i, ps_n, Option.bind_some, sm_0, sm_1, sm_2, sm_3, sm_4, sto_0, sto_1, sto_2, sto_3, sto_4, sto_5, sto_6, sto_7, sto_8, sto_9, sto_10, sto_11, sto_12, sto_13, sto_14, nlo_n, nlo_i, nlo_r, nlo_0, nlo_l, and_self, or_self, Nat.reduceEqDiff, Nat.reduceLT, Nat.reduceLeDiff, Nat.one_ne_zero, Nat.zero_ne_one, w0, f0, r7, m0, q0, a1, a2, e10, mk.1, k8, nI_eq, R.2.2.2.1.1, R.2.2.2.1.2.1, g3])
          · subst e5
            rw [show 8 + 5 * t + 4 = 12 + 5 * t by omega]
            (rw [j_C_eq]; simp (disch := omega) only [st_81_0, st_81_1, st_81_4, st_81_5, st_81_8, st_81_11, st_81_12, st_81_13, st_81_16, st_81_17, st_81_18, st_81_56, st_81_57, st_81_60, st_81_63, st_81_64, st_81_67, st_81_68, st_81_69, st_81_72, st_81_75, st_81_76, st_81_79, st_81_80, st_81_81, st_81_84, st_81_87, st_81_88, st_81_91, st_81_92, st_81_93, st_81_96, st_81_99, st_81_100, st_81_103, st_81_104, st_81_105, st_81_108, st_81_111, st_81_112, st_81_115, st_81_116, st_81_117, st_81_120, st_81_121, st_81_124, st_81_125, st_81_126, st_81_127, st_81_130, ini_81, fs_cl, fs_len, fs_rf, fs_M, fs_put, fs_cpy, ↓reduceIte, rv_ref, true_or, or_true, true_and, and_true, nI_ltI, ix_nI, nI_clamp, ps_i, ps_n, Option.bind_some, sm_0, sm_1, sm_2, sm_3, sm_4, sto_0, sto_1, sto_2, sto_3, sto_4, sto_5, sto_6, sto_7, sto_8, sto_9, sto_10, sto_11, sto_12, sto_13, sto_14, nlo_n, nlo_i, nlo_r, nlo_0, nlo_l, and_self, or_self, Nat.reduceEqDiff, Nat.reduceLT, Nat.reduceLeDiff, Nat.one_ne_zero, Nat.zero_ne_one, w0, f0, r7, m0, q0, a1, a2, e10, mk.1, k8, nI_eq, R.2.2.2.2.1.1, R.2.2.2.2.1.2.1, g4])
        · have g := r147e (M := M) md (t := t) (k := k) (by omega) (e := e) (by omega)
          rw [hR.1.1 _ (by omega) (by omega)] at g
          (rw [j_C_eq]; simp (disch := omega) only [st_176_0, st_176_1, st_176_2, st_176_5, st_176_8, st_176_9, st_176_10, st_176_11, st_176_14, st_176_17, st_176_20, st_176_21, st_176_22, st_176_25, st_176_26, st_176_27, st_176_28, st_176_31, st_176_32, st_176_33, st_176_34, st_176_37, st_176_40, st_176_41, st_176_42, st_176_45, ini_176, fs_cl, fs_len, fs_rf, fs_M, fs_put, fs_cpy, ↓reduceIte, rv_ref, true_or, or_true, true_and, and_true, nI_ltI, ix_nI, nI_clamp, ps_i, ps_n, Option.bind_some, sm_0, sm_1, sm_2, sm_3, sm_4, sto_0, sto_1, sto_2, sto_3, sto_4, sto_5, sto_6, sto_7, sto_8, sto_9, sto_10, sto_11, sto_12, sto_13, sto_14, nlo_n, nlo_i, nlo_r, nlo_0, nlo_l, and_self, or_self, Nat.reduceEqDiff, Nat.reduceLT, Nat.reduceLeDiff, Nat.one_ne_zero, Nat.zero_ne_one, w0, f0, r7, m0, q0, a1, a2, e10, l8, kl, k5, g])
    · refine go_f0 hi (k := 1) ?_
      intro e he
      obtain ⟨e, rfl⟩ : ∃ d, e = d + 1 := ⟨e - 1, by omega⟩
      have k8 := c8ye (M := M) mk hs h6 ht (e := e) (by omega)
      have kf := c119 (M := M) hh (k := 1) (by omega) (e := e) (by omega)
      have y0 := n_ne hy (j := 0) (by omega)
      have y1 := n_ne hy (j := 1) (by omega)
      have y2 := n_ne hy (j := 2) (by omega)
      have y3 := n_ne hy (j := 3) (by omega)
      have y4 := n_ne hy (j := 4) (by omega)
      have y5 := n_ne hy (j := 5) (by omega)
      refine ⟨by (rw [j_C_eq]; simp (disch := omega) only [st_81_0, st_81_1, st_81_4, st_81_5, st_81_8, st_81_11, st_81_12, st_81_13, st_81_16, st_81_17, st_81_18, st_81_56, st_81_57, st_81_60, st_81_63, st_81_64, st_81_67, st_81_68, st_81_69, st_81_72, st_81_75, st_81_76, st_81_79, st_81_80, st_81_81, st_81_84, st_81_87, st_81_88, st_81_91, st_81_92, st_81_93, st_81_96, st_81_99, st_81_100, st_81_103, st_81_104, st_81_105, st_81_108, st_81_111, st_81_112, st_81_115, st_81_116, st_81_117, st_81_120, st_81_121, st_81_124, st_81_125, st_81_126, st_81_127, st_81_130, ini_81, fs_cl, fs_len, fs_rf, fs_M, fs_put, fs_cpy, ↓reduceIte, rv_ref, true_or, or_true, true_and, and_true, nI_ltI, ix_nI, nI_clamp, ps_i, ps_n, Option.bind_some, sm_0, sm_1, sm_2, sm_3, sm_4, sto_0, sto_1, sto_2, sto_3, sto_4, sto_5, sto_6, sto_7, sto_8, sto_9, sto_10, sto_11, sto_12, sto_13, sto_14, nlo_n, nlo_i, nlo_r, nlo_0, nlo_l, and_self, or_self, Nat.reduceEqDiff, Nat.reduceLT, Nat.reduceLeDiff, Nat.one_ne_zero, Nat.zero_ne_one, w0, f0, r7, m0, q0, a1, a2, e10, mk.1, k8, y0, y1, y2, y3, y4, y5, kf]), fun M' hR' => ?_⟩
      have l8 := r145ye md hR'.1 h6 ht (e := e) (by omega)
      have kl := r143e (σ := FS h M') y.toInt64 (lN 0) (lN 5) (e := e) (by omega)
      rw [lin_out hy (by omega) (by omega)] at kl
      have kf := r142 (M := M') md (k := 1) (by omega) (e := e) (by omega)
      (rw [j_C_eq]; simp (disch := omega) only [st_176_0, st_176_1, st_176_2, st_176_5, st_176_8, st_176_9, st_176_10, st_176_11, st_176_14, st_176_17, st_176_20, st_176_21, st_176_22, st_176_25, st_176_26, st_176_27, st_176_28, st_176_31, st_176_32, st_176_33, st_176_34, st_176_37, st_176_40, st_176_41, st_176_42, st_176_45, ini_176, fs_cl, fs_len, fs_rf, fs_M, fs_put, fs_cpy, ↓reduceIte, rv_ref, true_or, or_true, true_and, and_true, nI_ltI, ix_nI, nI_clamp, ps_i, ps_n, Option.bind_some, sm_0, sm_1, sm_2, sm_3, sm_4, sto_0, sto_1, sto_2, sto_3, sto_4, sto_5, sto_6, sto_7, sto_8, sto_9, sto_10, sto_11, sto_12, sto_13, sto_14, nlo_n, nlo_i, nlo_r, nlo_0, nlo_l, and_self, or_self, Nat.reduceEqDiff, Nat.reduceLT, Nat.reduceLeDiff, Nat.one_ne_zero, Nat.zero_ne_one, w0, f0, r7, m0, q0, a1, a2, e10, l8, kl, kf])
  · refine go_f0 hi (k := 1) ?_
    intro e he
    obtain ⟨e, rfl⟩ : ∃ d, e = d + 1 := ⟨e - 1, by omega⟩
    have k8 := c8ne (M := M) mk hs h6 hx (e := e) (by omega)
    have kf := c119 (M := M) hh (k := 1) (by omega) (e := e) (by omega)
    refine ⟨by (rw [j_C_eq]; simp (disch := omega) only [st_81_0, st_81_1, st_81_4, st_81_5, st_81_8, st_81_11, st_81_12, st_81_13, st_81_16, st_81_17, st_81_18, st_81_56, st_81_57, st_81_60, st_81_63, st_81_64, st_81_67, st_81_68, st_81_69, st_81_72, st_81_75, st_81_76, st_81_79, st_81_80, st_81_81, st_81_84, st_81_87, st_81_88, st_81_91, st_81_92, st_81_93, st_81_96, st_81_99, st_81_100, st_81_103, st_81_104, st_81_105, st_81_108, st_81_111, st_81_112, st_81_115, st_81_116, st_81_117, st_81_120, st_81_121, st_81_124, st_81_125, st_81_126, st_81_127, st_81_130, ini_81, fs_cl, fs_len, fs_rf, fs_M, fs_put, fs_cpy, ↓reduceIte, rv_ref, true_or, or_true, true_and, and_true, nI_ltI, ix_nI, nI_clamp, ps_i, ps_n, Option.bind_some, sm_0, sm_1, sm_2, sm_3, sm_4, sto_0, sto_1, sto_2, sto_3, sto_4, sto_5, sto_6, sto_7, sto_8, sto_9, sto_10, sto_11, sto_12, sto_13, sto_14, nlo_n, nlo_i, nlo_r, nlo_0, nlo_l, and_self, or_self, Nat.reduceEqDiff, Nat.reduceLT, Nat.reduceLeDiff, Nat.one_ne_zero, Nat.zero_ne_one, w0, f0, r7, m0, q0, a1, a2, e10, mk.1, k8, kf]), fun M' hR' => ?_⟩
    have l8 := r145ne md hR'.1 h6 hx (e := e) (by omega)
    have kf := r142 (M := M') md (k := 1) (by omega) (e := e) (by omega)
    (rw [j_C_eq]; simp (disch := omega) only [st_176_0, st_176_1, st_176_2, st_176_5, st_176_8, st_176_9, st_176_10, st_176_11, st_176_14, st_176_17, st_176_20, st_176_21, st_176_22, st_176_25, st_176_26, st_176_27, st_176_28, st_176_31, st_176_32, st_176_33, st_176_34, st_176_37, st_176_40, st_176_41, st_176_42, st_176_45, ini_176, fs_cl, fs_len, fs_rf, fs_M, fs_put, fs_cpy, ↓reduceIte, rv_ref, true_or, or_true, true_and, and_true, nI_ltI, ix_nI, nI_clamp, ps_i, ps_n, Option.bind_some, sm_0, sm_1, sm_2, sm_3, sm_4, sto_0, sto_1, sto_2, sto_3, sto_4, sto_5, sto_6, sto_7, sto_8, sto_9, sto_10, sto_11, sto_12, sto_13, sto_14, nlo_n, nlo_i, nlo_r, nlo_0, nlo_l, and_self, or_self, Nat.reduceEqDiff, Nat.reduceLT, Nat.reduceLeDiff, Nat.one_ne_zero, Nat.zero_ne_one, w0, f0, r7, m0, q0, a1, a2, e10, l8, kf])
theorem g_ofCoin (hh : Hd h) (hi : IE M E z K0 K1 T W) (x y : Int32) : Go h M 86 171 [.int x, .int y] := by
  have w0 := hh.1.1
  have f0 := hh.1.2.1
  have r7 := hh.1.2.2.2.2.2.2.2.1
  have mk := hh.2.1.1
  have th := hh.2.2.2.1.1
  have md : Md h 115 := hh.2.2.2.2.2.2.2.1
  have m0 := md.1
  have q0 := md.2.1.1
  have a1 := md.2.1.2.1
  have a2 := md.2.1.2.2.1
  have hw := hi.1.1
  have h6 := hw.1
  have h8 := hw.2.1
  have hm := hi.2.1.1
  have hs := hm.1
  have hR : RC M 115 E z K0 K1 := hi.2.2.1.1
  have sd := hi.2.2.2.1
  have e10 : ¬ nI 1 = nI 0 := by decide +kernel
  by_cases hx : ∃ j, j < E 1 ∧ x = nI j
  · obtain ⟨c, hc, rfl⟩ := hx
    obtain ⟨t1, t2, t3⟩ := hm.2.2.1 c hc
    have cv := hw.2.2.2.2.2.2.2 c hc
    have rl : rE E c < 1000 := rn_lt cv.2.2.2
    have x5 := mk.2.2.2.2.2.2.1.1
    have y5 := mk.2.2.2.2.2.2.1.2
    have x6 := (Mk_6 mk).1
    have y6 := (Mk_6 mk).2
    have x7 := (Mk_7 mk).1
    have y7 := (Mk_7 mk).2
    by_cases hy : ∃ j, 0 ≤ j ∧ j ≤ 3 ∧ y = nI j
    · obtain ⟨k, hk0, hk, rfl⟩ := hy
      refine go_q hi ?_
      intro e he
      obtain ⟨e, rfl⟩ : ∃ d, e = d + 1 := ⟨e - 1, by omega⟩
      have k9 := c9ye (M := M) mk hs h8 hc (e := e) (by omega)
      have l9 := r146ye md hR.1 h8 hc (e := e) (by omega)
      have kl := r143e (σ := FS h M) (nI k).toInt64 (lN 0) (lN 3) (e := e) (by omega)
      rw [lin_in hk0 hk (by omega)] at kl
      have g5 := n33ie (M := M) y5 (by omega : c < 8) (e := e) (by omega)
      have g6 := n33ie (M := M) y6 (by omega : c < 8) (e := e) (by omega)
      have g7 := n33ie (M := M) y7 (by omega : c < 8) (e := e) (by omega)
      rw [t1] at g5
      rw [t2] at g6
      rw [t3] at g7
      have F2 := c133e (σ := FS h M) (v := rE E c) (by omega) (e := e) (by omega)
      rw [show sz (rE E c) = nE E c by unfold rE nE; rw [sz_rn cv.2.2.2]] at F2
      have u0 : 0 < 2 := by omega
      have u1 : 1 < 2 := by omega
      have u2 : ¬ 2 < 2 := by omega
      have u3 : ¬ 3 < 2 := by omega
      have hk3 : k = 0 ∨ k = 1 ∨ k = 2 ∨ k = 3 := by omega
      rcases hk3 with e3 | e3 | e3 | e3
      · subst e3
        refine ⟨nI (E (38 + 5 * c)), M, M, ?_, cq_r, sd, ?_, rg_r, hR⟩
        · (rw [j_C_eq]; simp (disch := omega) only [st_86_0, st_86_1, st_86_4, st_86_5, st_86_8, st_86_11, st_86_12, st_86_13, st_86_16, st_86_17, st_86_18, st_86_48, st_86_49, st_86_52, st_86_55, st_86_56, st_86_59, st_86_60, st_86_61, st_86_64, st_86_67, st_86_68, st_86_71, st_86_72, st_86_73, st_86_76, st_86_79, st_86_80, st_86_83, st_86_86, st_86_87, st_86_88, st_86_91, st_86_94, st_86_95, st_86_98, st_86_99, st_86_100, st_86_101, st_86_104, ini_86, fs_cl, fs_len, fs_rf, fs_M, fs_put, fs_cpy, ↓reduceIte, rv_ref, true_or, or_true, true_and, and_true, nI_ltI, ix_nI, nI_clamp, ps_i, ps_n, Option.bind_some, sm_0, sm_1, sm_2, sm_3, sm_4, sto_0, sto_1, sto_2, sto_3, sto_4, sto_5, sto_6, sto_7, sto_8, sto_9, sto_10, sto_11, sto_12, sto_13, sto_14, nlo_n, nlo_i, nlo_r, nlo_0, nlo_l, and_self, or_self, Nat.reduceEqDiff, Nat.reduceLT, Nat.reduceLeDiff, Nat.one_ne_zero, Nat.zero_ne_one, w0, f0, r7, m0, q0, a1, a2, e10, mk.1, k9, nI_eq, x5, y5.1, g5])
        · have g := r148e (M := M) md (t := c) (k := 0) (by omega) (e := e) (by omega)
          rw [hR.1.1 _ (by omega) (by omega), show 38 + 5 * c + 0 = 38 + 5 * c by omega] at g
          (rw [j_C_eq]; simp (disch := omega) only [st_171_0, st_171_1, st_171_2, st_171_5, st_171_8, st_171_9, st_171_10, st_171_11, st_171_14, st_171_17, st_171_20, st_171_21, st_171_22, st_171_25, st_171_26, st_171_27, st_171_28, st_171_31, st_171_32, st_171_33, st_171_34, st_171_37, st_171_40, st_171_41, st_171_42, st_171_45, st_171_46, st_171_47, st_171_50, st_171_53, st_171_54, st_171_55, st_171_58, ini_171, fs_cl, fs_len, fs_rf, fs_M, fs_put, fs_cpy, ↓reduceIte, rv_ref, true_or, or_true, true_and, and_true, nI_ltI, ix_nI, nI_clamp, ps_i, ps_n, Option.bind_some, sm_0, sm_1, sm_2, sm_3, sm_4, sto_0, sto_1, sto_2, sto_3, sto_4, sto_5, sto_6, sto_7, sto_8, sto_9, sto_10, sto_11, sto_12, sto_13, sto_14, nlo_n, nlo_i, nlo_r, nlo_0, nlo_l, and_self, or_self, Nat.reduceEqDiff, Nat.reduceLT, Nat.reduceLeDiff, Nat.one_ne_zero, Nat.zero_ne_one, w0, f0, r7, m0, q0, a1, a2, e10, l9, kl, u0, g])
      · subst e3
        refine ⟨nI (E (39 + 5 * c)), M, M, ?_, cq_r, sd, ?_, rg_r, hR⟩
        · (rw [j_C_eq]; simp (disch := omega) only [st_86_0, st_86_1, st_86_4, st_86_5, st_86_8, st_86_11, st_86_12, st_86_13, st_86_16, st_86_17, st_86_18, st_86_48, st_86_49, st_86_52, st_86_55, st_86_56, st_86_59, st_86_60, st_86_61, st_86_64, st_86_67, st_86_68, st_86_71, st_86_72, st_86_73, st_86_76, st_86_79, st_86_80, st_86_83, st_86_86, st_86_87, st_86_88, st_86_91, st_86_94, st_86_95, st_86_98, st_86_99, st_86_100, st_86_101, st_86_104, ini_86, fs_cl, fs_len, fs_rf, fs_M, fs_put, fs_cpy, ↓reduceIte, rv_ref, true_or, or_true, true_and, and_true, nI_ltI, ix_nI, nI_clamp, ps_i, ps_n, Option.bind_some, sm_0, sm_1, sm_2, sm_3, sm_4, sto_0, sto_1, sto_2, sto_3, sto_4, sto_5, sto_6, sto_7, sto_8, sto_9, sto_10, sto_11, sto_12, sto_13, sto_14, nlo_n, nlo_i, nlo_r, nlo_0, nlo_l, and_self, or_self, Nat.reduceEqDiff, Nat.reduceLT, Nat.reduceLeDiff, Nat.one_ne_zero, Nat.zero_ne_one, w0, f0, r7, m0, q0, a1, a2, e10, mk.1, k9, nI_eq, x6, y6.1, g6])
        · have g := r148e (M := M) md (t := c) (k := 1) (by omega) (e := e) (by omega)
          rw [hR.1.1 _ (by omega) (by omega), show 38 + 5 * c + 1 = 39 + 5 * c by omega] at g
          (rw [j_C_eq]; simp (disch := omega) only [st_171_0, st_171_1, st_171_2, st_171_5, st_171_8, st_171_9, st_171_10, st_171_11, st_171_14, st_171_17, st_171_20, st_171_21, st_171_22, st_171_25, st_171_26, st_171_27, st_171_28, st_171_31, st_171_32, st_171_33, st_171_34, st_171_37, st_171_40, st_171_41, st_171_42, st_171_45, st_171_46, st_171_47, st_171_50, st_171_53, st_171_54, st_171_55, st_171_58, ini_171, fs_cl, fs_len, fs_rf, fs_M, fs_put, fs_cpy, ↓reduceIte, rv_ref, true_or, or_true, true_and, and_true, nI_ltI, ix_nI, nI_clamp, ps_i, ps_n, Option.bind_some, sm_0, sm_1, sm_2, sm_3, sm_4, sto_0, sto_1, sto_2, sto_3, sto_4, sto_5, sto_6, sto_7, sto_8, sto_9, sto_10, sto_11, sto_12, sto_13, sto_14, nlo_n, nlo_i, nlo_r, nlo_0, nlo_l, and_self, or_self, Nat.reduceEqDiff, Nat.reduceLT, Nat.reduceLeDiff, Nat.one_ne_zero, Nat.zero_ne_one, w0, f0, r7, m0, q0, a1, a2, e10, l9, kl, u1, g])
      · subst e3
        refine ⟨nI (nE E c), M, M, ?_, cq_r, sd, ?_, rg_r, hR⟩
        · (rw [j_C_eq]; simp (disch := omega) only [st_86_0, st_86_1, st_86_4, st_86_5, st_86_8, st_86_11, st_86_12, st_86_13, st_86_16, st_86_17, st_86_18, st_86_48, st_86_49, st_86_52, st_86_55, st_86_56, st_86_59, st_86_60, st_86_61, st_86_64, st_86_67, st_86_68, st_86_71, st_86_72, st_86_73, st_86_76, st_86_79, st_86_80, st_86_83, st_86_86, st_86_87, st_86_88, st_86_91, st_86_94, st_86_95, st_86_98, st_86_99, st_86_100, st_86_101, st_86_104, ini_86, fs_cl, fs_len, fs_rf, fs_M, fs_put, fs_cpy, ↓reduceIte, rv_ref, true_or, or_true, true_and, and_true, nI_ltI, ix_nI, nI_clamp, ps_i, ps_n, Option.bind_some, sm_0, sm_1, sm_2, sm_3, sm_4, sto_0, sto_1, sto_2, sto_3, sto_4, sto_5, sto_6, sto_7, sto_8, sto_9, sto_10, sto_11, sto_12, sto_13, sto_14, nlo_n, nlo_i, nlo_r, nlo_0, nlo_l, and_self, or_self, Nat.reduceEqDiff, Nat.reduceLT, Nat.reduceLeDiff, Nat.one_ne_zero, Nat.zero_ne_one, w0, f0, r7, m0, q0, a1, a2, e10, mk.1, k9, nI_eq, x7, y7.1, g7, F2])
        · have g := r166e md hR.1 (by omega : c < 8) cv.2.2.2 (e := e) (by omega)
          (rw [j_C_eq]; simp (disch := omega) only [st_171_0, st_171_1, st_171_2, st_171_5, st_171_8, st_171_9, st_171_10, st_171_11, st_171_14, st_171_17, st_171_20, st_171_21, st_171_22, st_171_25, st_171_26, st_171_27, st_171_28, st_171_31, st_171_32, st_171_33, st_171_34, st_171_37, st_171_40, st_171_41, st_171_42, st_171_45, st_171_46, st_171_47, st_171_50, st_171_53, st_171_54, st_171_55, st_171_58, ini_171, fs_cl, fs_len, fs_rf, fs_M, fs_put, fs_cpy, ↓reduceIte, rv_ref, true_or, or_true, true_and, and_true, nI_ltI, ix_nI, nI_clamp, ps_i, ps_n, Option.bind_some, sm_0, sm_1, sm_2, sm_3, sm_4, sto_0, sto_1, sto_2, sto_3, sto_4, sto_5, sto_6, sto_7, sto_8, sto_9, sto_10, sto_11, sto_12, sto_13, sto_14, nlo_n, nlo_i, nlo_r, nlo_0, nlo_l, and_self, or_self, Nat.reduceEqDiff, Nat.reduceLT, Nat.reduceLeDiff, Nat.one_ne_zero, Nat.zero_ne_one, w0, f0, r7, m0, q0, a1, a2, e10, l9, kl, u2, nI_eq, g])
      · subst e3
        refine ⟨nI (rE E c), M, M, ?_, cq_r, sd, ?_, rg_r, hR⟩
        · (rw [j_C_eq]; simp (disch := omega) only [st_86_0, st_86_1, st_86_4, st_86_5, st_86_8, st_86_11, st_86_12, st_86_13, st_86_16, st_86_17, st_86_18, st_86_48, st_86_49, st_86_52, st_86_55, st_86_56, st_86_59, st_86_60, st_86_61, st_86_64, st_86_67, st_86_68, st_86_71, st_86_72, st_86_73, st_86_76, st_86_79, st_86_80, st_86_83, st_86_86, st_86_87, st_86_88, st_86_91, st_86_94, st_86_95, st_86_98, st_86_99, st_86_100, st_86_101, st_86_104, ini_86, fs_cl, fs_len, fs_rf, fs_M, fs_put, fs_cpy, ↓reduceIte, rv_ref, true_or, or_true, true_and, and_true, nI_ltI, ix_nI, nI_clamp, ps_i, ps_n, Option.bind_some, sm_0, sm_1, sm_2, sm_3, sm_4, sto_0, sto_1, sto_2, sto_3, sto_4, sto_5, sto_6, sto_7, sto_8, sto_9, sto_10, sto_11, sto_12, sto_13, sto_14, nlo_n, nlo_i, nlo_r, nlo_0, nlo_l, and_self, or_self, Nat.reduceEqDiff, Nat.reduceLT, Nat.reduceLeDiff, Nat.one_ne_zero, Nat.zero_ne_one, w0, f0, r7, m0, q0, a1, a2, e10, mk.1, k9, nI_eq, x7, y7.1, g7])
        · have g := r168e md hR.1 (by omega : c < 8) cv.2.2.2 (e := e) (by omega)
          (rw [j_C_eq]; simp (disch := omega) only [st_171_0, st_171_1, st_171_2, st_171_5, st_171_8, st_171_9, st_171_10, st_171_11, st_171_14, st_171_17, st_171_20, st_171_21, st_171_22, st_171_25, st_171_26, st_171_27, st_171_28, st_171_31, st_171_32, st_171_33, st_171_34, st_171_37, st_171_40, st_171_41, st_171_42, st_171_45, st_171_46, st_171_47, st_171_50, st_171_53, st_171_54, st_171_55, st_171_58, ini_171, fs_cl, fs_len, fs_rf, fs_M, fs_put, fs_cpy, ↓reduceIte, rv_ref, true_or, or_true, true_and, and_true, nI_ltI, ix_nI, nI_clamp, ps_i, ps_n, Option.bind_some, sm_0, sm_1, sm_2, sm_3, sm_4, sto_0, sto_1, sto_2, sto_3, sto_4, sto_5, sto_6, sto_7, sto_8, sto_9, sto_10, sto_11, sto_12, sto_13, sto_14, nlo_n, nlo_i, nlo_r, nlo_0, nlo_l, and_self, or_self, Nat.reduceEqDiff, Nat.reduceLT, Nat.reduceLeDiff, Nat.one_ne_zero, Nat.zero_ne_one, w0, f0, r7, m0, q0, a1, a2, e10, l9, kl, u3, nI_eq, g])
    · refine go_f0 hi (k := 1) ?_
      intro e he
      obtain ⟨e, rfl⟩ : ∃ d, e = d + 1 := ⟨e - 1, by omega⟩
      have k9 := c9ye (M := M) mk hs h8 hc (e := e) (by omega)
      have kf := c119 (M := M) hh (k := 1) (by omega) (e := e) (by omega)
      have y0 := n_ne hy (j := 0) (by omega)
      have y1 := n_ne hy (j := 1) (by omega)
      have y2 := n_ne hy (j := 2) (by omega)
      have y3 := n_ne hy (j := 3) (by omega)
      refine ⟨by (rw [j_C_eq]; simp (disch := omega) only [st_86_0, st_86_1, st_86_4, st_86_5, st_86_8, st_86_11, st_86_12, st_86_13, st_86_16, st_86_17, st_86_18, st_86_48, st_86_49, st_86_52, st_86_55, st_86_56, st_86_59, st_86_60, st_86_61, st_86_64, st_86_67, st_86_68, st_86_71, st_86_72, st_86_73, st_86_76, st_86_79, st_86_80, st_86_83, st_86_86, st_86_87, st_86_88, st_86_91, st_86_94, st_86_95, st_86_98, st_86_99, st_86_100, st_86_101, st_86_104, ini_86, fs_cl, fs_len, fs_rf, fs_M, fs_put, fs_cpy, ↓reduceIte, rv_ref, true_or, or_true, true_and, and_true, nI_ltI, ix_nI, nI_clamp, ps_i, ps_n, Option.bind_some, sm_0, sm_1, sm_2, sm_3, sm_4, sto_0, sto_1, sto_2, sto_3, sto_4, sto_5, sto_6, sto_7, sto_8, sto_9, sto_10, sto_11, sto_12, sto_13, sto_14, nlo_n, nlo_i, nlo_r, nlo_0, nlo_l, and_self, or_self, Nat.reduceEqDiff, Nat.reduceLT, Nat.reduceLeDiff, Nat.one_ne_zero, Nat.zero_ne_one, w0, f0, r7, m0, q0, a1, a2, e10, mk.1, k9, y0, y1, y2, y3, kf]), fun M' hR' => ?_⟩
      have l9 := r146ye md hR'.1 h8 hc (e := e) (by omega)
      have kl := r143e (σ := FS h M') y.toInt64 (lN 0) (lN 3) (e := e) (by omega)
      rw [lin_out hy (by omega) (by omega)] at kl
      have kf := r142 (M := M') md (k := 1) (by omega) (e := e) (by omega)
      (rw [j_C_eq]; simp (disch := omega) only [st_171_0, st_171_1, st_171_2, st_171_5, st_171_8, st_171_9, st_171_10, st_171_11, st_171_14, st_171_17, st_171_20, st_171_21, st_171_22, st_171_25, st_171_26, st_171_27, st_171_28, st_171_31, st_171_32, st_171_33, st_171_34, st_171_37, st_171_40, st_171_41, st_171_42, st_171_45, st_171_46, st_171_47, st_171_50, st_171_53, st_171_54, st_171_55, st_171_58, ini_171, fs_cl, fs_len, fs_rf, fs_M, fs_put, fs_cpy, ↓reduceIte, rv_ref, true_or, or_true, true_and, and_true, nI_ltI, ix_nI, nI_clamp, ps_i, ps_n, Option.bind_some, sm_0, sm_1, sm_2, sm_3, sm_4, sto_0, sto_1, sto_2, sto_3, sto_4, sto_5, sto_6, sto_7, sto_8, sto_9, sto_10, sto_11, sto_12, sto_13, sto_14, nlo_n, nlo_i, nlo_r, nlo_0, nlo_l, and_self, or_self, Nat.reduceEqDiff, Nat.reduceLT, Nat.reduceLeDiff, Nat.one_ne_zero, Nat.zero_ne_one, w0, f0, r7, m0, q0, a1, a2, e10, l9, kl, kf])
  · refine go_f0 hi (k := 1) ?_
    intro e he
    obtain ⟨e, rfl⟩ : ∃ d, e = d + 1 := ⟨e - 1, by omega⟩
    have k9 := c9ne (M := M) mk hs h8 hx (e := e) (by omega)
    have kf := c119 (M := M) hh (k := 1) (by omega) (e := e) (by omega)
    refine ⟨by (rw [j_C_eq]; simp (disch := omega) only [st_86_0, st_86_1, st_86_4, st_86_5, st_86_8, st_86_11, st_86_12, st_86_13, st_86_16, st_86_17, st_86_18, st_86_48, st_86_49, st_86_52, st_86_55, st_86_56, st_86_59, st_86_60, st_86_61, st_86_64, st_86_67, st_86_68, st_86_71, st_86_72, st_86_73, st_86_76, st_86_79, st_86_80, st_86_83, st_86_86, st_86_87, st_86_88, st_86_91, st_86_94, st_86_95, st_86_98, st_86_99, st_86_100, st_86_101, st_86_104, ini_86, fs_cl, fs_len, fs_rf, fs_M, fs_put, fs_cpy, ↓reduceIte, rv_ref, true_or, or_true, true_and, and_true, nI_ltI, ix_nI, nI_clamp, ps_i, ps_n, Option.bind_some, sm_0, sm_1, sm_2, sm_3, sm_4, sto_0, sto_1, sto_2, sto_3, sto_4, sto_5, sto_6, sto_7, sto_8, sto_9, sto_10, sto_11, sto_12, sto_13, sto_14, nlo_n, nlo_i, nlo_r, nlo_0, nlo_l, and_self, or_self, Nat.reduceEqDiff, Nat.reduceLT, Nat.reduceLeDiff, Nat.one_ne_zero, Nat.zero_ne_one, w0, f0, r7, m0, q0, a1, a2, e10, mk.1, k9, kf]), fun M' hR' => ?_⟩
    have l9 := r146ne md hR'.1 h8 hx (e := e) (by omega)
    have kf := r142 (M := M') md (k := 1) (by omega) (e := e) (by omega)
    (rw [j_C_eq]; simp (disch := omega) only [st_171_0, st_171_1, st_171_2, st_171_5, st_171_8, st_171_9, st_171_10, st_171_11, st_171_14, st_171_17, st_171_20, st_171_21, st_171_22, st_171_25, st_171_26, st_171_27, st_171_28, st_171_31, st_171_32, st_171_33, st_171_34, st_171_37, st_171_40, st_171_41, st_171_42, st_171_45, st_171_46, st_171_47, st_171_50, st_171_53, st_171_54, st_171_55, st_171_58, ini_171, fs_cl, fs_len, fs_rf, fs_M, fs_put, fs_cpy, ↓reduceIte, rv_ref, true_or, or_true, true_and, and_true, nI_ltI, ix_nI, nI_clamp, ps_i, ps_n, Option.bind_some, sm_0, sm_1, sm_2, sm_3, sm_4, sto_0, sto_1, sto_2, sto_3, sto_4, sto_5, sto_6, sto_7, sto_8, sto_9, sto_10, sto_11, sto_12, sto_13, sto_14, nlo_n, nlo_i, nlo_r, nlo_0, nlo_l, and_self, or_self, Nat.reduceEqDiff, Nat.reduceLT, Nat.reduceLeDiff, Nat.one_ne_zero, Nat.zero_ne_one, w0, f0, r7, m0, q0, a1, a2, e10, l9, kf])
theorem WE_T (hw : WE E) {t k v : Nat} (hk : k < 5) (ok : (k = 0 → v < 7) ∧ (k = 1 → v < 10) ∧ (k = 2 → 1 ≤ v ∧ v ≤ 7) ∧ (k = 3 → v ≤ 99) ∧ (k = 4 → v < 256)) (ht : t < 6) : WE (upE E (8 + 5 * t + k) v) := by
  obtain ⟨y0, y1, y2, y3, y4, y5, y6, y7⟩ := hw
  refine ⟨by rw [upE_o _ (by omega)]; exact y0, by rw [upE_o _ (by omega)]; exact y1, by rw [upE_o _ (by omega)]; exact y2, by rw [upE_o _ (by omega)]; exact y3, by rw [upE_o _ (by omega)]; exact y4, by rw [upE_o _ (by omega)]; exact y5, fun s hs => ?_, fun c hc => ?_⟩
  · rw [upE_o _ (by omega)] at hs
    obtain ⟨z1, z2, z3, z4, z5, z6⟩ := y6 s hs
    unfold Tv upE
    refine ⟨?_, ?_, ?_, ?_, ?_, ?_⟩ <;> split <;> omega
  · rw [upE_o _ (by omega)] at hc
    have := y7 c hc
    unfold Cv at this ⊢
    rw [upE_o _ (by omega), upE_o _ (by omega), upE_o _ (by omega), upE_o _ (by omega), upE_o _ (by omega), upE_o _ (by omega)]
    exact this
theorem even_d : ∀ n, n < 256 → (nI n &&& nI 1 = nI 0 ↔ n % 2 = 0) := by decide +kernel
