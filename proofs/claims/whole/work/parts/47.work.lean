/-! The reference: brackets; a whole text; what a text gives. -/
variable {h : j_Hd} {M : Nat → Nat → Int32} {σ : j_St} {d o bs : Nat} {B : Nat → Nat} {n u : Nat} {a b c : Int32}
theorem v160 (hk : Md h o) {D k : Nat} (hD : 4 ≤ D) (hk4 : k ≤ 4) (hP : VOk h o bs B n u a b c D 160 k (ptR B n u k)) (hQ : VOk h o bs B n u a b c (D + 5) 155 k (chR B n (ptR B n u k) 5)) : VOk h o bs B n u a b c (D + 6) 160 (k + 1) (ptR B n u (k + 1)) := by
  intro e he q M hf hq h8 h9 hqn
  obtain ⟨e, rfl⟩ : ∃ d, e = d + 1 := ⟨e - 1, by omega⟩
  have m0 := hk.1
  have n50 := hf.2.1
  have xl := nx_le (Fy_B hf) q
  have g := r151 hk hf hq h8 hqn (e := e) (by omega)
  have e10 : ¬ nI 1 = nI 0 := by decide +kernel
  have o5 : ¬ nI (5 - (k + 1)) = nI 5 := nI_ne (by omega) (by omega) (by omega)
  have ok : 5 - (k + 1) + 1 = 5 - k := by omega
  have ok2 : nI (5 - k) - nI 1 = nI (5 - (k + 1)) := by
    rw [← ok, nI_sub (by omega)]; rfl
  have fr : vf o M (j_up (j_up M o 9 (nI (5 - k))) o 6 (nI (q + 1))) := vf_t vf_9 vf_6
  have s6 : j_up (j_up M o 9 (nI (5 - k))) o 6 (nI (q + 1)) o 6 = nI (q + 1) := up_s _ _ _
  have s8 : j_up (j_up M o 9 (nI (5 - k))) o 6 (nI (q + 1)) o 8 = -1 := by
    rw [up_k _ _ _ _ (by omega), up_k _ _ _ _ (by omega)]; exact h8
  have s9 : j_up (j_up M o 9 (nI (5 - k))) o 6 (nI (q + 1)) o 9 = nI (5 - k) := by
    rw [up_k _ _ _ _ (by omega), up_s]
  have q6 : j_up M o 9 (nI (5 - k)) o 6 = nI q := by rw [up_k _ _ _ _ (by omega)]; exact hq
  unfold ptR
  by_cases c1 : nx B n q = 33
  · rw [if_pos c1]
    have hin := nx_in (B := B) (n := n) (q := q) (by omega)
    rw [c1, bI_lt (by omega)] at g
    have t2 : ¬ nI 33 = nI 40 := by decide +kernel
    obtain ⟨v, M1, a1, a2, a3, a4⟩ := hP e (by omega) (q + 1) _ (Fy_vf hf fr) s6 s8 s9 (by omega)
    have hX : j_C (e + 1) 160 [.ref o] (FS h M) = some (some (.int (if v = nI 0 then nI 1 else nI 0)), FS h (j_up M1 o 9 (M1 o 9 - nI 1))) := by
      rw [j_C_eq]
      by_cases v0 : v = nI 0
      · rw [if_pos v0]
        simp (disch := omega) only [st_160_0, st_160_1, st_160_4, st_160_5, st_160_6, st_160_8, st_160_11, st_160_12, st_160_14, st_160_17, st_160_18, st_160_21, st_160_22, st_160_25, st_160_26, st_160_29, st_160_30, st_160_31, st_160_31r, st_160_32, st_160_35, st_160_36, st_160_37, st_160_40, st_160_41, st_160_41r, st_160_42, st_160_45, st_160_46, st_160_47, st_160_50, st_160_51, st_160_53, st_160_56, st_160_57, st_160_60, st_160_63, st_160_64, st_160_67, st_160_68, st_160_69, st_160_71, st_160_74, st_160_75, st_160_77, st_160_80, st_160_83, st_160_84, st_160_87, st_160_88, st_160_89, st_160_89r, st_160_90, st_160_93, st_160_94, st_160_95, st_160_98, st_160_99, st_160_101, st_160_104, st_160_105, st_160_108, st_160_109, st_160_112, st_160_113, st_160_116, st_160_117, st_160_118, st_160_119, st_160_120, st_160_123, st_160_124, st_160_125, st_160_128, st_160_129, st_160_129r, st_160_130, st_160_133, st_160_134, st_160_135, st_160_138, st_160_139, st_160_142, st_160_143, st_160_144, st_160_145, st_160_146, st_160_147, st_160_148, st_160_152, st_160_153, st_160_156, st_160_157, st_160_160, st_160_161, st_160_164, st_160_167, st_160_170, st_160_173, st_160_175, st_160_176, st_160_177, st_160_178, st_160_181, st_160_182, st_160_184, st_160_185, st_160_186, st_160_187, st_160_187r, st_160_188, st_160_191, st_160_192, st_160_193, st_160_196, st_160_199, st_160_202, st_160_204, st_160_207, st_160_208, st_160_211, st_160_214, st_160_215, ini_160, fs_cl, fs_len, fs_rf, fs_M, fs_put, fs_cpy, ↓reduceIte, rv_ref, true_or, or_true, true_and, and_true, nI_ltI, ix_nI, nI_clamp, ps_i, ps_n, Option.bind_some, sm_0, sm_1, sm_2, sm_3, sm_4, sto_0, sto_1, sto_2, sto_3, sto_4, sto_5, sto_6, sto_7, sto_8, sto_9, sto_10, sto_11, sto_12, sto_13, sto_14, nlo_n, nlo_i, nlo_r, nlo_0, nlo_l, and_self, or_self, Nat.reduceEqDiff, Nat.reduceLT, Nat.reduceLeDiff, Nat.one_ne_zero, Nat.zero_ne_one, m0, g, h9, o5, nI_add, ok, q6, t2, a1, eq_true v0]
      · rw [if_neg v0]
        simp (disch := omega) only [st_160_0, st_160_1, st_160_4, st_160_5, st_160_6, st_160_8, st_160_11, st_160_12, st_160_14, st_160_17, st_160_18, st_160_21, st_160_22, st_160_25, st_160_26, st_160_29, st_160_30, st_160_31, st_160_31r, st_160_32, st_160_35, st_160_36, st_160_37, st_160_40, st_160_41, st_160_41r, st_160_42, st_160_45, st_160_46, st_160_47, st_160_50, st_160_51, st_160_53, st_160_56, st_160_57, st_160_60, st_160_63, st_160_64, st_160_67, st_160_68, st_160_69, st_160_71, st_160_74, st_160_75, st_160_77, st_160_80, st_160_83, st_160_84, st_160_87, st_160_88, st_160_89, st_160_89r, st_160_90, st_160_93, st_160_94, st_160_95, st_160_98, st_160_99, st_160_101, st_160_104, st_160_105, st_160_108, st_160_109, st_160_112, st_160_113, st_160_116, st_160_117, st_160_118, st_160_119, st_160_120, st_160_123, st_160_124, st_160_125, st_160_128, st_160_129, st_160_129r, st_160_130, st_160_133, st_160_134, st_160_135, st_160_138, st_160_139, st_160_142, st_160_143, st_160_144, st_160_145, st_160_146, st_160_147, st_160_148, st_160_152, st_160_153, st_160_156, st_160_157, st_160_160, st_160_161, st_160_164, st_160_167, st_160_170, st_160_173, st_160_175, st_160_176, st_160_177, st_160_178, st_160_181, st_160_182, st_160_184, st_160_185, st_160_186, st_160_187, st_160_187r, st_160_188, st_160_191, st_160_192, st_160_193, st_160_196, st_160_199, st_160_202, st_160_204, st_160_207, st_160_208, st_160_211, st_160_214, st_160_215, ini_160, fs_cl, fs_len, fs_rf, fs_M, fs_put, fs_cpy, ↓reduceIte, rv_ref, true_or, or_true, true_and, and_true, nI_ltI, ix_nI, nI_clamp, ps_i, ps_n, Option.bind_some, sm_0, sm_1, sm_2, sm_3, sm_4, sto_0, sto_1, sto_2, sto_3, sto_4, sto_5, sto_6, sto_7, sto_8, sto_9, sto_10, sto_11, sto_12, sto_13, sto_14, nlo_n, nlo_i, nlo_r, nlo_0, nlo_l, and_self, or_self, Nat.reduceEqDiff, Nat.reduceLT, Nat.reduceLeDiff, Nat.one_ne_zero, Nat.zero_ne_one, m0, g, h9, o5, nI_add, ok, q6, t2, a1, v0]
    by_cases c2 : (ptR B n u k (q + 1)).1 = true
    · rw [if_pos c2]
      obtain ⟨b1, b2, b3, b4⟩ := a3 c2
      rw [s9] at b4
      refine ⟨_, _, hX, vf_t (vf_t fr a2) vf_9, fun _ => ⟨fun l => ?_, ?_, ?_, ?_⟩, fun e => by cases e⟩
      · rw [List.foldl_append, b1, List.foldl_cons, List.foldl_nil]
        unfold stp
        rw [if_pos (by decide +kernel), if_pos (by decide +kernel), if_pos rfl]
        rfl
      · rw [up_k _ _ _ _ (by omega)]; exact b2
      · rw [up_k _ _ _ _ (by omega)]; exact b3
      · rw [up_s, b4, ok2, h9]
    · rw [if_neg c2]
      have f := a4 (Bool.eq_false_iff.mpr c2)
      exact ⟨_, _, hX, vf_t (vf_t fr a2) vf_9, (fun e => by cases e), fun _ => by rw [up_k _ _ _ _ (by omega)]; exact f⟩
  · rw [if_neg c1]
    by_cases c2 : nx B n q = 40
    · rw [if_pos c2]
      have hin := nx_in (B := B) (n := n) (q := q) (by omega)
      rw [c2, bI_lt (by omega)] at g
      have t1 : ¬ nI 40 = nI 33 := by decide +kernel
      obtain ⟨v, M1, a1, a2, a3, a4⟩ := hQ e (by omega) (q + 1) _ (Fy_vf hf fr) s6 s8 s9 (by omega)
      obtain ⟨g1, g2, g3⟩ := ch_gd (B := B) (pt_gd (B := B) (u := u) k) 5 (q + 1) (by omega : q + 1 ≤ n)
      have hf1 := Fy_vf (Fy_vf hf fr) a2
      by_cases c3 : (chR B n (ptR B n u k) 5 (q + 1)).1 = true
      · obtain ⟨b1, b2, b3, b4⟩ := a3 c3
        rw [s9] at b4
        by_cases c4 : nx B n (chR B n (ptR B n u k) 5 (q + 1)).2.1 = 41
        · rw [if_pos (show (chR B n (ptR B n u k) 5 (q + 1)).1 = true ∧ nx B n (chR B n (ptR B n u k) 5 (q + 1)).2.1 = 41 from ⟨c3, c4⟩)]
          have gt := r153y hk hf1 b2 b3 g2 (by omega) c4 (e := e) (by omega)
          have b9 : j_up M1 o 6 (nI ((chR B n (ptR B n u k) 5 (q + 1)).2.1 + 1)) o 9 = nI (5 - k) := by rw [up_k _ _ _ _ (by omega)]; exact b4
          refine ⟨v, j_up (j_up M1 o 6 (nI ((chR B n (ptR B n u k) 5 (q + 1)).2.1 + 1))) o 9 (nI (5 - (k + 1))), ?_, vf_t (vf_t (vf_t fr a2) vf_6) vf_9, fun _ => ⟨b1, ?_, ?_, ?_⟩, fun e => by cases e⟩
          · rw [j_C_eq]
            simp (disch := omega) only [st_160_0, st_160_1, st_160_4, st_160_5, st_160_6, st_160_8, st_160_11, st_160_12, st_160_14, st_160_17, st_160_18, st_160_21, st_160_22, st_160_25, st_160_26, st_160_29, st_160_30, st_160_31, st_160_31r, st_160_32, st_160_35, st_160_36, st_160_37, st_160_40, st_160_41, st_160_41r, st_160_42, st_160_45, st_160_46, st_160_47, st_160_50, st_160_51, st_160_53, st_160_56, st_160_57, st_160_60, st_160_63, st_160_64, st_160_67, st_160_68, st_160_69, st_160_71, st_160_74, st_160_75, st_160_77, st_160_80, st_160_83, st_160_84, st_160_87, st_160_88, st_160_89, st_160_89r, st_160_90, st_160_93, st_160_94, st_160_95, st_160_98, st_160_99, st_160_101, st_160_104, st_160_105, st_160_108, st_160_109, st_160_112, st_160_113, st_160_116, st_160_117, st_160_118, st_160_119, st_160_120, st_160_123, st_160_124, st_160_125, st_160_128, st_160_129, st_160_129r, st_160_130, st_160_133, st_160_134, st_160_135, st_160_138, st_160_139, st_160_142, st_160_143, st_160_144, st_160_145, st_160_146, st_160_147, st_160_148, st_160_152, st_160_153, st_160_156, st_160_157, st_160_160, st_160_161, st_160_164, st_160_167, st_160_170, st_160_173, st_160_175, st_160_176, st_160_177, st_160_178, st_160_181, st_160_182, st_160_184, st_160_185, st_160_186, st_160_187, st_160_187r, st_160_188, st_160_191, st_160_192, st_160_193, st_160_196, st_160_199, st_160_202, st_160_204, st_160_207, st_160_208, st_160_211, st_160_214, st_160_215, ini_160, fs_cl, fs_len, fs_rf, fs_M, fs_put, fs_cpy, ↓reduceIte, rv_ref, true_or, or_true, true_and, and_true, nI_ltI, ix_nI, nI_clamp, ps_i, ps_n, Option.bind_some, sm_0, sm_1, sm_2, sm_3, sm_4, sto_0, sto_1, sto_2, sto_3, sto_4, sto_5, sto_6, sto_7, sto_8, sto_9, sto_10, sto_11, sto_12, sto_13, sto_14, nlo_n, nlo_i, nlo_r, nlo_0, nlo_l, and_self, or_self, Nat.reduceEqDiff, Nat.reduceLT, Nat.reduceLeDiff, Nat.one_ne_zero, Nat.zero_ne_one, m0, g, h9, o5, nI_add, ok, q6, t1, a1, gt, e10, b9, ok2]
          · rw [up_k _ _ _ _ (by omega), up_s]
          · rw [up_k _ _ _ _ (by omega), up_k _ _ _ _ (by omega)]; exact b3
          · rw [up_s, h9]
        · rw [if_neg (show ¬ ((chR B n (ptR B n u k) 5 (q + 1)).1 = true ∧ nx B n (chR B n (ptR B n u k) 5 (q + 1)).2.1 = 41) from fun hh => c4 hh.2)]
          have gt := r153n hk hf1 b2 b3 g2 (by omega : 41 < 256) c4 (e := e) (by omega)
          have gw := r152 hk b2 b3 (e := e) (by omega)
          refine ⟨nI 0, j_up M1 o 8 (nI (chR B n (ptR B n u k) 5 (q + 1)).2.1), ?_, vf_t (vf_t fr a2) vf_8, (fun e => by cases e), fun _ => up_s _ _ _⟩
          rw [j_C_eq]
          simp (disch := omega) only [st_160_0, st_160_1, st_160_4, st_160_5, st_160_6, st_160_8, st_160_11, st_160_12, st_160_14, st_160_17, st_160_18, st_160_21, st_160_22, st_160_25, st_160_26, st_160_29, st_160_30, st_160_31, st_160_31r, st_160_32, st_160_35, st_160_36, st_160_37, st_160_40, st_160_41, st_160_41r, st_160_42, st_160_45, st_160_46, st_160_47, st_160_50, st_160_51, st_160_53, st_160_56, st_160_57, st_160_60, st_160_63, st_160_64, st_160_67, st_160_68, st_160_69, st_160_71, st_160_74, st_160_75, st_160_77, st_160_80, st_160_83, st_160_84, st_160_87, st_160_88, st_160_89, st_160_89r, st_160_90, st_160_93, st_160_94, st_160_95, st_160_98, st_160_99, st_160_101, st_160_104, st_160_105, st_160_108, st_160_109, st_160_112, st_160_113, st_160_116, st_160_117, st_160_118, st_160_119, st_160_120, st_160_123, st_160_124, st_160_125, st_160_128, st_160_129, st_160_129r, st_160_130, st_160_133, st_160_134, st_160_135, st_160_138, st_160_139, st_160_142, st_160_143, st_160_144, st_160_145, st_160_146, st_160_147, st_160_148, st_160_152, st_160_153, st_160_156, st_160_157, st_160_160, st_160_161, st_160_164, st_160_167, st_160_170, st_160_173, st_160_175, st_160_176, st_160_177, st_160_178, st_160_181, st_160_182, st_160_184, st_160_185, st_160_186, st_160_187, st_160_187r, st_160_188, st_160_191, st_160_192, st_160_193, st_160_196, st_160_199, st_160_202, st_160_204, st_160_207, st_160_208, st_160_211, st_160_214, st_160_215, ini_160, fs_cl, fs_len, fs_rf, fs_M, fs_put, fs_cpy, ↓reduceIte, rv_ref, true_or, or_true, true_and, and_true, nI_ltI, ix_nI, nI_clamp, ps_i, ps_n, Option.bind_some, sm_0, sm_1, sm_2, sm_3, sm_4, sto_0, sto_1, sto_2, sto_3, sto_4, sto_5, sto_6, sto_7, sto_8, sto_9, sto_10, sto_11, sto_12, sto_13, sto_14, nlo_n, nlo_i, nlo_r, nlo_0, nlo_l, and_self, or_self, Nat.reduceEqDiff, Nat.reduceLT, Nat.reduceLeDiff, Nat.one_ne_zero, Nat.zero_ne_one, m0, g, h9, o5, nI_add, ok, q6, t1, a1, gt, gw]
      · rw [if_neg (show ¬ ((chR B n (ptR B n u k) 5 (q + 1)).1 = true ∧ nx B n (chR B n (ptR B n u k) 5 (q + 1)).2.1 = 41) from fun hh => c3 hh.1)]
        have f := a4 (Bool.eq_false_iff.mpr c3)
        have gt := r153f hk f (by omega) (x := 41) (by omega) (e := e) (by omega)
        have gw := r152f hk f (by omega) (e := e) (by omega)
        refine ⟨nI 0, M1, ?_, vf_t fr a2, (fun e => by cases e), fun _ => f⟩
        rw [j_C_eq]
        simp (disch := omega) only [st_160_0, st_160_1, st_160_4, st_160_5, st_160_6, st_160_8, st_160_11, st_160_12, st_160_14, st_160_17, st_160_18, st_160_21, st_160_22, st_160_25, st_160_26, st_160_29, st_160_30, st_160_31, st_160_31r, st_160_32, st_160_35, st_160_36, st_160_37, st_160_40, st_160_41, st_160_41r, st_160_42, st_160_45, st_160_46, st_160_47, st_160_50, st_160_51, st_160_53, st_160_56, st_160_57, st_160_60, st_160_63, st_160_64, st_160_67, st_160_68, st_160_69, st_160_71, st_160_74, st_160_75, st_160_77, st_160_80, st_160_83, st_160_84, st_160_87, st_160_88, st_160_89, st_160_89r, st_160_90, st_160_93, st_160_94, st_160_95, st_160_98, st_160_99, st_160_101, st_160_104, st_160_105, st_160_108, st_160_109, st_160_112, st_160_113, st_160_116, st_160_117, st_160_118, st_160_119, st_160_120, st_160_123, st_160_124, st_160_125, st_160_128, st_160_129, st_160_129r, st_160_130, st_160_133, st_160_134, st_160_135, st_160_138, st_160_139, st_160_142, st_160_143, st_160_144, st_160_145, st_160_146, st_160_147, st_160_148, st_160_152, st_160_153, st_160_156, st_160_157, st_160_160, st_160_161, st_160_164, st_160_167, st_160_170, st_160_173, st_160_175, st_160_176, st_160_177, st_160_178, st_160_181, st_160_182, st_160_184, st_160_185, st_160_186, st_160_187, st_160_187r, st_160_188, st_160_191, st_160_192, st_160_193, st_160_196, st_160_199, st_160_202, st_160_204, st_160_207, st_160_208, st_160_211, st_160_214, st_160_215, ini_160, fs_cl, fs_len, fs_rf, fs_M, fs_put, fs_cpy, ↓reduceIte, rv_ref, true_or, or_true, true_and, and_true, nI_ltI, ix_nI, nI_clamp, ps_i, ps_n, Option.bind_some, sm_0, sm_1, sm_2, sm_3, sm_4, sto_0, sto_1, sto_2, sto_3, sto_4, sto_5, sto_6, sto_7, sto_8, sto_9, sto_10, sto_11, sto_12, sto_13, sto_14, nlo_n, nlo_i, nlo_r, nlo_0, nlo_l, and_self, or_self, Nat.reduceEqDiff, Nat.reduceLT, Nat.reduceLeDiff, Nat.one_ne_zero, Nat.zero_ne_one, m0, g, h9, o5, nI_add, ok, q6, t1, a1, gt, gw]
    · rw [if_neg c2]
      exact r160b hk (by omega) hf hq h8 h9 hqn (.inl (fun hh => hh.elim c1 c2))
theorem v_ch (hk : Md h o) {D k : Nat} (hD : 4 ≤ D) (hP : VOk h o bs B n u a b c D 160 k (ptR B n u k)) : VOk h o bs B n u a b c (D + 5) 155 k (chR B n (ptR B n u k) 5) := by
  have G := fun m => ch_gd (B := B) (pt_gd (B := B) (n := n) (u := u) k) m
  have h0 : VOk h o bs B n u a b c D 160 k (chR B n (ptR B n u k) 0) := hP
  have h1 : VOk h o bs B n u a b c (D + 1) 159 k (chR B n (ptR B n u k) 1) := v159 hk (by omega) (G 0) h0
  have h2 : VOk h o bs B n u a b c (D + 2) 158 k (chR B n (ptR B n u k) 2) := v158 hk (by omega) (G 1) h1
  have h3 : VOk h o bs B n u a b c (D + 3) 157 k (chR B n (ptR B n u k) 3) := v157 hk (by omega) (G 2) h2
  have h4 : VOk h o bs B n u a b c (D + 4) 156 k (chR B n (ptR B n u k) 4) := v156 hk (by omega) (G 3) h3
  exact v155 hk (by omega) (G 4) h4
theorem v_k (hk : Md h o) : ∀ k, k ≤ 5 → VOk h o bs B n u a b c (6 * k + 4) 160 k (ptR B n u k) := by
  intro k
  induction k with
  | zero =>
    intro _ e he q M hf hq h8 h9 hqn
    exact r160b hk (by omega) hf hq h8 h9 hqn (.inr rfl)
  | succ k ih =>
    intro h5
    have hP := ih (by omega)
    exact v160 hk (by omega) (by omega) hP (v_ch hk (by omega) hP)
/-- a whole text, worked -/
theorem r161 (hk : Md h o) (hu : u < 2) (hn : n ≤ 50) (hb : bs + n ≤ 250) (ha : M (o + 5) 0 = a) (hb2 : M (o + 5) 1 = b) (hc : M (o + 5) 2 = c) (hB : ∀ i, i < n → M (o + 1) (bs + i) = nI (B i) ∧ B i < 256) {e : Nat} (he : 50 ≤ e) : ∃ v M', j_C e 161 [.ref o, .int (nI bs), .int (nI n), .int (nI u)] (FS h M) = some (some (.int v), FS h M') ∧ (∀ x, x ≠ o → M' x = M x) ∧ (∀ k, (k < 5 ∨ 10 < k) → M' o k = M o k) ∧ ((txR B n u).1 = true ∧ (txR B n u).2.1 = n → M' o 8 = -1 ∧ ∀ l, (txR B n u).2.2.foldl (stp a b c) l = v :: l) ∧ (¬ ((txR B n u).1 = true ∧ (txR B n u).2.1 = n) → M' o 8 = nI (txR B n u).2.1) := by
  obtain ⟨e, rfl⟩ : ∃ d, e = d + 1 := ⟨e - 1, by omega⟩
  have m0 := hk.1
  have e10 : ¬ nI 1 = nI 0 := by decide +kernel
  have hV := v_ch hk (by omega) (v_k (bs := bs) (B := B) (n := n) (u := u) (a := a) (b := b) (c := c) hk 5 (by omega))
  have hf : Fy (j_up (j_up (j_up (j_up (j_up (j_up M o 5 (nI bs)) o 6 (nI 0)) o 7 (nI n)) o 8 (-1)) o 9 (nI 0)) o 10 (nI u)) o bs B n u a b c := by
    refine ⟨hb, hn, hu, ?_, ?_, up_s _ _ _, ?_, ?_, ?_, fun i hi => ?_⟩
    · rw [up_k _ _ _ _ (by omega), up_k _ _ _ _ (by omega), up_k _ _ _ _ (by omega), up_k _ _ _ _ (by omega), up_k _ _ _ _ (by omega), up_s]
    · rw [up_k _ _ _ _ (by omega), up_k _ _ _ _ (by omega), up_k _ _ _ _ (by omega), up_s]
    · rw [up_r _ _ _ _ (by omega), up_r _ _ _ _ (by omega), up_r _ _ _ _ (by omega), up_r _ _ _ _ (by omega), up_r _ _ _ _ (by omega), up_r _ _ _ _ (by omega)]; exact ha
    · rw [up_r _ _ _ _ (by omega), up_r _ _ _ _ (by omega), up_r _ _ _ _ (by omega), up_r _ _ _ _ (by omega), up_r _ _ _ _ (by omega), up_r _ _ _ _ (by omega)]; exact hb2
    · rw [up_r _ _ _ _ (by omega), up_r _ _ _ _ (by omega), up_r _ _ _ _ (by omega), up_r _ _ _ _ (by omega), up_r _ _ _ _ (by omega), up_r _ _ _ _ (by omega)]; exact hc
    · rw [up_r _ _ _ _ (by omega), up_r _ _ _ _ (by omega), up_r _ _ _ _ (by omega), up_r _ _ _ _ (by omega), up_r _ _ _ _ (by omega), up_r _ _ _ _ (by omega)]; exact hB i hi
  have s6 : (j_up (j_up (j_up (j_up (j_up (j_up M o 5 (nI bs)) o 6 (nI 0)) o 7 (nI n)) o 8 (-1)) o 9 (nI 0)) o 10 (nI u)) o 6 = nI 0 := by
    rw [up_k _ _ _ _ (by omega), up_k _ _ _ _ (by omega), up_k _ _ _ _ (by omega), up_k _ _ _ _ (by omega), up_s]
  have s8 : (j_up (j_up (j_up (j_up (j_up (j_up M o 5 (nI bs)) o 6 (nI 0)) o 7 (nI n)) o 8 (-1)) o 9 (nI 0)) o 10 (nI u)) o 8 = -1 := by
    rw [up_k _ _ _ _ (by omega), up_k _ _ _ _ (by omega), up_s]
  have s9 : (j_up (j_up (j_up (j_up (j_up (j_up M o 5 (nI bs)) o 6 (nI 0)) o 7 (nI n)) o 8 (-1)) o 9 (nI 0)) o 10 (nI u)) o 9 = nI (5 - 5) := by
    rw [up_k _ _ _ _ (by omega), up_s]
  have hup : j_up (j_up (j_up (j_up (j_up (j_up M o 5 (nI bs)) o 6 (nI 0)) o 7 (nI n)) o 8 (-1)) o 9 (nI 0)) o 10 (nI (if u = 1 then 1 else 0)) = j_up (j_up (j_up (j_up (j_up (j_up M o 5 (nI bs)) o 6 (nI 0)) o 7 (nI n)) o 8 (-1)) o 9 (nI 0)) o 10 (nI u) := by
    congr 2
    by_cases e : u = 1
    · rw [if_pos e, e]
    · rw [if_neg e]; omega
  have fr0 : (∀ x, x ≠ o → (j_up (j_up (j_up (j_up (j_up (j_up M o 5 (nI bs)) o 6 (nI 0)) o 7 (nI n)) o 8 (-1)) o 9 (nI 0)) o 10 (nI u)) x = M x) ∧ (∀ k, (k < 5 ∨ 10 < k) → (j_up (j_up (j_up (j_up (j_up (j_up M o 5 (nI bs)) o 6 (nI 0)) o 7 (nI n)) o 8 (-1)) o 9 (nI 0)) o 10 (nI u)) o k = M o k) := by
    refine ⟨fun x hx => ?_, fun k hk => ?_⟩
    · rw [up_r _ _ _ _ hx, up_r _ _ _ _ hx, up_r _ _ _ _ hx, up_r _ _ _ _ hx, up_r _ _ _ _ hx, up_r _ _ _ _ hx]
    · rw [up_k _ _ _ _ (by omega), up_k _ _ _ _ (by omega), up_k _ _ _ _ (by omega), up_k _ _ _ _ (by omega), up_k _ _ _ _ (by omega), up_k _ _ _ _ (by omega)]
  obtain ⟨v, M1, a1, a2, a3, a4⟩ := hV e (by omega) 0 _ hf s6 s8 s9 (by omega)
  obtain ⟨g1, g2, g3⟩ := ch_gd (B := B) (pt_gd (B := B) (u := u) 5) 5 0 (Nat.zero_le n)
  have hf1 := Fy_vf hf a2
  have e7 := hf1.2.2.2.2.1
  have fr1 : (∀ x, x ≠ o → M1 x = M x) ∧ (∀ k, (k < 5 ∨ 10 < k) → M1 o k = M o k) := ⟨fun x hx => by rw [a2.1 x hx]; exact fr0.1 x hx, fun k hk => by rw [a2.2 k (by omega) (by omega) (by omega)]; exact fr0.2 k hk⟩
  unfold txR
  have hu2 : u = 0 ∨ u = 1 := by omega
  by_cases cc : (chR B n (ptR B n u 5) 5 0).1 = true
  · obtain ⟨b1, b2, b3, b4⟩ := a3 cc
    have f5 : (-1 : Int32) < nI 0 := by decide +kernel
    by_cases c2 : (chR B n (ptR B n u 5) 5 0).2.1 = n
    · have nl : ¬ (chR B n (ptR B n u 5) 5 0).2.1 < n := by omega
      refine ⟨v, M1, ?_, fr1.1, fr1.2, fun _ => ⟨b3, b1⟩, fun hh => absurd ⟨cc, c2⟩ hh⟩
      rw [j_C_eq]
      rcases hu2 with e0 | e0 <;> (subst e0; simp (disch := omega) only [st_161_0, st_161_1, st_161_2, st_161_5, st_161_6, st_161_7, st_161_10, st_161_11, st_161_12, st_161_15, st_161_16, st_161_17, st_161_20, st_161_21, st_161_22, st_161_25, st_161_26, st_161_27, st_161_28, st_161_31, st_161_32, st_161_35, st_161_36, st_161_39, st_161_40, st_161_43, st_161_45, st_161_46, st_161_49, st_161_52, st_161_53, st_161_56, st_161_57, st_161_60, st_161_63, st_161_64, st_161_67, st_161_68, st_161_70, ini_161, fs_cl, fs_len, fs_rf, fs_M, fs_put, fs_cpy, ↓reduceIte, rv_ref, true_or, or_true, true_and, and_true, nI_ltI, ix_nI, nI_clamp, ps_i, ps_n, Option.bind_some, sm_0, sm_1, sm_2, sm_3, sm_4, sto_0, sto_1, sto_2, sto_3, sto_4, sto_5, sto_6, sto_7, sto_8, sto_9, sto_10, sto_11, sto_12, sto_13, sto_14, nlo_n, nlo_i, nlo_r, nlo_0, nlo_l, and_self, or_self, Nat.reduceEqDiff, Nat.reduceLT, Nat.reduceLeDiff, Nat.one_ne_zero, Nat.zero_ne_one, m0, nI_eq, a1, b3, f5, b2, e7, nl])
    · have nl : (chR B n (ptR B n u 5) 5 0).2.1 < n := by omega
      have gw := r152 hk b2 b3 (e := e) (by omega)
      refine ⟨nI 0, j_up M1 o 8 (nI (chR B n (ptR B n u 5) 5 0).2.1), ?_, fun x hx => ?_, fun k hk => ?_, fun hh => absurd hh.2 c2, fun _ => up_s _ _ _⟩
      · rw [j_C_eq]
        rcases hu2 with e0 | e0 <;> (subst e0; simp (disch := omega) only [st_161_0, st_161_1, st_161_2, st_161_5, st_161_6, st_161_7, st_161_10, st_161_11, st_161_12, st_161_15, st_161_16, st_161_17, st_161_20, st_161_21, st_161_22, st_161_25, st_161_26, st_161_27, st_161_28, st_161_31, st_161_32, st_161_35, st_161_36, st_161_39, st_161_40, st_161_43, st_161_45, st_161_46, st_161_49, st_161_52, st_161_53, st_161_56, st_161_57, st_161_60, st_161_63, st_161_64, st_161_67, st_161_68, st_161_70, ini_161, fs_cl, fs_len, fs_rf, fs_M, fs_put, fs_cpy, ↓reduceIte, rv_ref, true_or, or_true, true_and, and_true, nI_ltI, ix_nI, nI_clamp, ps_i, ps_n, Option.bind_some, sm_0, sm_1, sm_2, sm_3, sm_4, sto_0, sto_1, sto_2, sto_3, sto_4, sto_5, sto_6, sto_7, sto_8, sto_9, sto_10, sto_11, sto_12, sto_13, sto_14, nlo_n, nlo_i, nlo_r, nlo_0, nlo_l, and_self, or_self, Nat.reduceEqDiff, Nat.reduceLT, Nat.reduceLeDiff, Nat.one_ne_zero, Nat.zero_ne_one, m0, nI_eq, a1, b3, f5, b2, e7, nl, gw])
      · rw [up_r _ _ _ _ hx]; exact fr1.1 x hx
      · rw [up_k _ _ _ _ (by omega)]; exact fr1.2 k hk
  · have f := a4 (Bool.eq_false_iff.mpr cc)
    have f5 : ¬ nI (chR B n (ptR B n u 5) 5 0).2.1 < nI 0 := nI_nlt (by omega) (by omega)
    refine ⟨v, M1, ?_, fr1.1, fr1.2, fun hh => absurd hh.1 cc, fun _ => f⟩
    rw [j_C_eq]
    rcases hu2 with e0 | e0 <;> (subst e0; simp (disch := omega) only [st_161_0, st_161_1, st_161_2, st_161_5, st_161_6, st_161_7, st_161_10, st_161_11, st_161_12, st_161_15, st_161_16, st_161_17, st_161_20, st_161_21, st_161_22, st_161_25, st_161_26, st_161_27, st_161_28, st_161_31, st_161_32, st_161_35, st_161_36, st_161_39, st_161_40, st_161_43, st_161_45, st_161_46, st_161_49, st_161_52, st_161_53, st_161_56, st_161_57, st_161_60, st_161_63, st_161_64, st_161_67, st_161_68, st_161_70, ini_161, fs_cl, fs_len, fs_rf, fs_M, fs_put, fs_cpy, ↓reduceIte, rv_ref, true_or, or_true, true_and, and_true, nI_ltI, ix_nI, nI_clamp, ps_i, ps_n, Option.bind_some, sm_0, sm_1, sm_2, sm_3, sm_4, sto_0, sto_1, sto_2, sto_3, sto_4, sto_5, sto_6, sto_7, sto_8, sto_9, sto_10, sto_11, sto_12, sto_13, sto_14, nlo_n, nlo_i, nlo_r, nlo_0, nlo_l, and_self, or_self, Nat.reduceEqDiff, Nat.reduceLT, Nat.reduceLeDiff, Nat.one_ne_zero, Nat.zero_ne_one, m0, nI_eq, a1, f, f5])
/-- the code that stands for the reference's text -/
def Tx (M : Nat → Nat → Int32) (o u : Nat) (K : List Int32) : Prop := (K = [] ∧ M (o + 1) (78 + u) = nI 0) ∨ ∃ B n, 1 ≤ n ∧ n ≤ 50 ∧ M (o + 1) (78 + u) = nI n ∧ (∀ i, i < n → M (o + 1) (100 + 50 * u + i) = nI (B i) ∧ B i < 256) ∧ txR B n u = (true, n, K)
theorem hld_mm {lo v : Int32} (h : ¬ nI 99 < lo) (h2 : lo ≠ nI 99) : hld v lo (nI 99) = mm lo v := by
  have e99 : (nI 99).toInt = 99 := nI_tI (by omega)
  have hne : lo.toInt ≠ 99 := fun e => h2 (by rw [← Int32.toInt_inj, e99]; exact e)
  rw [nlt (by omega)] at h
  unfold hld mm
  have l1 : v < nI 99 ↔ v.toInt < 99 := ltn (by omega)
  have l2 : nI 99 < v ↔ (99 : Int) < v.toInt := nlt (by omega)
  by_cases c1 : v < nI 99
  · rw [if_pos c1]
    rw [l1] at c1
    by_cases c2 : v < lo
    · rw [if_pos c2]
      rw [Int32.lt_iff_toInt_lt] at c2
      rw [if_neg (by rw [Int32.lt_iff_toInt_lt]; omega)]
    · rw [if_neg c2, if_neg (by rw [l2]; omega)]
      by_cases c3 : lo < v
      · rw [if_pos c3]
      · rw [if_neg c3, ← Int32.toInt_inj]
        rw [Int32.lt_iff_toInt_lt] at c2 c3
        omega
  · rw [if_neg c1]
    rw [l1] at c1
    rw [if_neg (by rw [Int32.lt_iff_toInt_lt]; omega), if_pos (show lo < nI 99 by rw [Int32.lt_iff_toInt_lt]; omega)]
    by_cases c3 : nI 99 < v
    · rw [if_pos c3]
    · rw [if_neg c3, ← Int32.toInt_inj]
      rw [l2] at c3
      omega
/-- only what the texts are worked in is written -/
def wf (o : Nat) (M M' : Nat → Nat → Int32) : Prop := (∀ x, x ≠ o → x ≠ o + 5 → M' x = M x) ∧ ∀ k, (k < 5 ∨ 10 < k) → M' o k = M o k
theorem wf_r : wf o M M := ⟨fun _ _ _ => rfl, fun _ _ => rfl⟩
theorem wf_t {M1 M2 M3 : Nat → Nat → Int32} (h1 : wf o M1 M2) (h2 : wf o M2 M3) : wf o M1 M3 := ⟨fun x e f => by rw [h2.1 x e f, h1.1 x e f], fun k e => by rw [h2.2 k e, h1.2 k e]⟩
theorem r164 (hk : Md h o) {K : List Int32} (hu : u < 2) (hT : Tx M o u K) (x y w : Int32) {e : Nat} (he : 51 ≤ e) : ∃ M', j_C e 164 [.ref o, .int (nI u), .int x, .int y, .int w] (FS h M) = some (some (.int (if u = 0 then gv0 K x y w else gv1 K x y w)), FS h M') ∧ wf o M M' := by
  obtain ⟨e, rfl⟩ : ∃ d, e = d + 1 := ⟨e - 1, by omega⟩
  obtain ⟨m0, ⟨q0, k1, k2, k3⟩, _, _, _, ⟨q11, z1, z2, z3⟩, _⟩ := id hk
  have ix : 78 + u < 250 := by omega
  have e10 : ¬ nI 1 = nI 0 := by decide +kernel
  have i0 : 0 < 3 := by omega
  have i1 : 1 < 3 := by omega
  have i2 : 2 < 3 := by omega
  have g144 := fun (M : Nat → Nat → Int32) v lo => r144 (σ := FS h M) (d := e - 1) v lo (nI 99)
  rw [show e - 1 + 1 = e by omega] at g144
  have hh0 := fun v => hld_mm (lo := -99) (v := v) (by decide +kernel) (by decide +kernel)
  have hh1 := fun v => hld_mm (lo := nI 0) (v := v) (by decide +kernel) (by decide +kernel)
  have hu2 : u = 0 ∨ u = 1 := by omega
  rcases hT with ⟨hK, h0⟩ | ⟨B, n, n1, n50, hn, hB, ht⟩
  · subst hK
    have f0 : ¬ nI 0 < nI 0 := nI_nlt (by omega) (by omega)
    refine ⟨M, ?_, wf_r⟩
    rw [j_C_eq]
    rcases hu2 with e0 | e0
    · subst e0
      rw [if_pos rfl]
      unfold gv0
      rw [if_pos (show ([] : List Int32).length = 0 from rfl)]
      simp (disch := omega) only [st_164_0, st_164_1, st_164_4, st_164_5, st_164_7, st_164_8, st_164_9, st_164_10, st_164_11, st_164_12, st_164_14, st_164_15, st_164_18, st_164_19, st_164_21, st_164_22, st_164_25, st_164_27, st_164_28, st_164_29, st_164_30, st_164_33, st_164_34, st_164_37, st_164_38, st_164_39, st_164_40, st_164_41, st_164_44, st_164_45, st_164_46, st_164_47, st_164_48, st_164_51, st_164_52, st_164_54, st_164_55, st_164_56, st_164_58, st_164_60, st_164_61, st_164_62, st_164_63, st_164_64, st_164_67, st_164_69, st_164_70, st_164_71, st_164_72, st_164_73, st_164_76, st_164_78, st_164_80, st_164_81, st_164_84, st_164_86, st_164_89, st_164_90, st_164_92, st_164_95, ini_164, fs_cl, fs_len, fs_rf, fs_M, fs_put, fs_cpy, ↓reduceIte, rv_ref, true_or, or_true, true_and, and_true, nI_ltI, ix_nI, nI_clamp, ps_i, ps_n, Option.bind_some, sm_0, sm_1, sm_2, sm_3, sm_4, sto_0, sto_1, sto_2, sto_3, sto_4, sto_5, sto_6, sto_7, sto_8, sto_9, sto_10, sto_11, sto_12, sto_13, sto_14, nlo_n, nlo_i, nlo_r, nlo_0, nlo_l, and_self, or_self, Nat.reduceEqDiff, Nat.reduceLT, Nat.reduceLeDiff, Nat.one_ne_zero, Nat.zero_ne_one, m0, q0, k1, k2, nI_add, ix, h0, f0, g144, hh0]
    · subst e0
      rw [if_neg (by omega)]
      unfold gv1
      rw [if_pos (show ([] : List Int32).length = 0 from rfl)]
      simp (disch := omega) only [st_164_0, st_164_1, st_164_4, st_164_5, st_164_7, st_164_8, st_164_9, st_164_10, st_164_11, st_164_12, st_164_14, st_164_15, st_164_18, st_164_19, st_164_21, st_164_22, st_164_25, st_164_27, st_164_28, st_164_29, st_164_30, st_164_33, st_164_34, st_164_37, st_164_38, st_164_39, st_164_40, st_164_41, st_164_44, st_164_45, st_164_46, st_164_47, st_164_48, st_164_51, st_164_52, st_164_54, st_164_55, st_164_56, st_164_58, st_164_60, st_164_61, st_164_62, st_164_63, st_164_64, st_164_67, st_164_69, st_164_70, st_164_71, st_164_72, st_164_73, st_164_76, st_164_78, st_164_80, st_164_81, st_164_84, st_164_86, st_164_89, st_164_90, st_164_92, st_164_95, ini_164, fs_cl, fs_len, fs_rf, fs_M, fs_put, fs_cpy, ↓reduceIte, rv_ref, true_or, or_true, true_and, and_true, nI_ltI, ix_nI, nI_clamp, ps_i, ps_n, Option.bind_some, sm_0, sm_1, sm_2, sm_3, sm_4, sto_0, sto_1, sto_2, sto_3, sto_4, sto_5, sto_6, sto_7, sto_8, sto_9, sto_10, sto_11, sto_12, sto_13, sto_14, nlo_n, nlo_i, nlo_r, nlo_0, nlo_l, and_self, or_self, Nat.reduceEqDiff, Nat.reduceLT, Nat.reduceLeDiff, Nat.one_ne_zero, Nat.zero_ne_one, m0, q0, k1, k2, nI_add, ix, h0, f0, e10, g144, hh1]
  · have fr : ∀ x', x' ≠ o + 5 → (j_up (j_up (j_up M (o + 5) 0 x) (o + 5) 1 y) (o + 5) 2 w) x' = M x' := fun x' hx => by rw [up_r _ _ _ _ hx, up_r _ _ _ _ hx, up_r _ _ _ _ hx]
    obtain ⟨v, M1, a1, a2, a3, a4, _⟩ := r161 (M := j_up (j_up (j_up M (o + 5) 0 x) (o + 5) 1 y) (o + 5) 2 w) (B := B) (n := n) (bs := 100 + 50 * u) (a := x) (b := y) (c := w) hk hu n50 (by omega) (by rw [up_k _ _ _ _ (by omega), up_k _ _ _ _ (by omega), up_s]) (by rw [up_k _ _ _ _ (by omega), up_s]) (up_s _ _ _) (by rw [fr _ (by omega)]; exact hB) (e := e) (by omega)
    have hv := (a4 (by rw [ht]; exact ⟨rfl, rfl⟩)).2 []
    rw [ht] at hv
    have hv : K.foldl (stp x y w) [] = [v] := hv
    have hK : K.length ≠ 0 := by
      intro h0
      rw [List.length_eq_zero_iff] at h0
      rw [h0] at hv
      cases hv
    have hw : wko K x y w = v := by unfold wko; rw [hv]; rfl
    have fn : nI 0 < nI n := nI_lt (by omega) (by omega)
    have hn2 : j_up (j_up (j_up M (o + 5) 0 x) (o + 5) 1 y) (o + 5) 2 w (o + 1) (78 + u) = nI n := by rw [fr _ (by omega)]; exact hn
    refine ⟨M1, ?_, ⟨fun x' h1 h2 => by rw [a2 x' h1, fr x' h2], fun k hk => by rw [a3 k hk, fr o (by omega)]⟩⟩
    rw [j_C_eq]
    rcases hu2 with e0 | e0
    · subst e0
      rw [if_pos rfl]
      unfold gv0
      rw [if_neg hK, hw]
      simp (disch := omega) only [st_164_0, st_164_1, st_164_4, st_164_5, st_164_7, st_164_8, st_164_9, st_164_10, st_164_11, st_164_12, st_164_14, st_164_15, st_164_18, st_164_19, st_164_21, st_164_22, st_164_25, st_164_27, st_164_28, st_164_29, st_164_30, st_164_33, st_164_34, st_164_37, st_164_38, st_164_39, st_164_40, st_164_41, st_164_44, st_164_45, st_164_46, st_164_47, st_164_48, st_164_51, st_164_52, st_164_54, st_164_55, st_164_56, st_164_58, st_164_60, st_164_61, st_164_62, st_164_63, st_164_64, st_164_67, st_164_69, st_164_70, st_164_71, st_164_72, st_164_73, st_164_76, st_164_78, st_164_80, st_164_81, st_164_84, st_164_86, st_164_89, st_164_90, st_164_92, st_164_95, ini_164, fs_cl, fs_len, fs_rf, fs_M, fs_put, fs_cpy, ↓reduceIte, rv_ref, true_or, or_true, true_and, and_true, nI_ltI, ix_nI, nI_clamp, ps_i, ps_n, Option.bind_some, sm_0, sm_1, sm_2, sm_3, sm_4, sto_0, sto_1, sto_2, sto_3, sto_4, sto_5, sto_6, sto_7, sto_8, sto_9, sto_10, sto_11, sto_12, sto_13, sto_14, nlo_n, nlo_i, nlo_r, nlo_0, nlo_l, and_self, or_self, Nat.reduceEqDiff, Nat.reduceLT, Nat.reduceLeDiff, Nat.one_ne_zero, Nat.zero_ne_one, m0, q0, q11, k1, k2, z1, z2, nI_add, nI_mul, ix, hn, hn2, fn, i0, i1, i2, a1, g144, hh0]
    · subst e0
      rw [if_neg (by omega)]
      unfold gv1
      rw [if_neg hK, hw]
      simp (disch := omega) only [st_164_0, st_164_1, st_164_4, st_164_5, st_164_7, st_164_8, st_164_9, st_164_10, st_164_11, st_164_12, st_164_14, st_164_15, st_164_18, st_164_19, st_164_21, st_164_22, st_164_25, st_164_27, st_164_28, st_164_29, st_164_30, st_164_33, st_164_34, st_164_37, st_164_38, st_164_39, st_164_40, st_164_41, st_164_44, st_164_45, st_164_46, st_164_47, st_164_48, st_164_51, st_164_52, st_164_54, st_164_55, st_164_56, st_164_58, st_164_60, st_164_61, st_164_62, st_164_63, st_164_64, st_164_67, st_164_69, st_164_70, st_164_71, st_164_72, st_164_73, st_164_76, st_164_78, st_164_80, st_164_81, st_164_84, st_164_86, st_164_89, st_164_90, st_164_92, st_164_95, ini_164, fs_cl, fs_len, fs_rf, fs_M, fs_put, fs_cpy, ↓reduceIte, rv_ref, true_or, or_true, true_and, and_true, nI_ltI, ix_nI, nI_clamp, ps_i, ps_n, Option.bind_some, sm_0, sm_1, sm_2, sm_3, sm_4, sto_0, sto_1, sto_2, sto_3, sto_4, sto_5, sto_6, sto_7, sto_8, sto_9, sto_10, sto_11, sto_12, sto_13, sto_14, nlo_n, nlo_i, nlo_r, nlo_0, nlo_l, and_self, or_self, Nat.reduceEqDiff, Nat.reduceLT, Nat.reduceLeDiff, Nat.one_ne_zero, Nat.zero_ne_one, m0, q0, q11, k1, k2, z1, z2, nI_add, nI_mul, ix, hn, hn2, fn, i0, i1, i2, a1, e10, g144, hh1]
