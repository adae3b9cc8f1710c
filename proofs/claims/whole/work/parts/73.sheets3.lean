/-! Both sides: move. -/
variable {h : j_Hd} {M M1 M2 M3 : Nat → Nat → Int32} {o b s : Nat} {E E' : Nat → Nat} {z : Int32} {K0 K1 K : List Int32} {T : Nat → Nat} {W : Nat → Int32}
theorem sub_lt {s : Nat} {x y : Int32} (hs : s < 1000) (hy : ¬ y.toInt < 0) : nI s - y < x ↔ (s : Int) - y.toInt < x.toInt := by
  have b := y.toInt_lt
  rw [nI_z, zI_of y, zI_sub, Int32.lt_iff_toInt_lt, zI_toInt (by omega) (by omega), ← zI_of y]
theorem r215a (hk : Md h o) {p i n : Nat} (hp : p < 4) (hi : i + n ≤ 40) {x2 : Option Value} {x3 x4 : Int32} {e : Nat} : ∀ r k (M : Nat → Nat → Int32), r + k = n → ∃ M', j_X e 215 115 [some (.ref o), some (.int (nI p)), some (.int (nI i)), some (.int x3), some (.int x4), some (.int (nI n)), some (.int (nI k))] [] (FS h M) = j_X e 215 149 [some (.ref o), some (.int (nI p)), some (.int (nI i)), some (.int x3), some (.int x4), some (.int (nI n)), some (.int (nI n))] [] (FS h M') ∧ (∀ j, k ≤ j → j < n → M' (o + 11) j = M (o + 10) (40 * p + i + j)) ∧ (∀ j, j < k → M' (o + 11) j = M (o + 11) j) ∧ ∀ x, x ≠ o + 11 → M' x = M x := by
  have m0 := hk.1
  have qa := hk.2.2.2.2.2.2.2.2.2.2.1.1
  have baa := hk.2.2.2.2.2.2.2.2.2.2.1.2.1
  have bab := hk.2.2.2.2.2.2.2.2.2.2.1.2.2.1
  have ql := hk.2.2.2.2.2.2.2.2.2.2.2.1
  have bla := hk.2.2.2.2.2.2.2.2.2.2.2.2.1
  have blb := hk.2.2.2.2.2.2.2.2.2.2.2.2.2.1
  intro r
  induction r with
  | zero =>
    intro k M hr
    have ek : k = n := by omega
    have e1 : ¬ n < n := by omega
    subst ek
    refine ⟨M, ?_, fun j h1 h2 => by omega, fun _ _ => rfl, fun _ _ => rfl⟩
    rw [st_215_115]
    simp (disch := omega) only [st_215_117, st_215_119, st_215_122, st_215_123, st_215_126, st_215_128, st_215_129, st_215_132, st_215_134, st_215_135, st_215_136, st_215_137, st_215_138, st_215_140, st_215_141, st_215_142, st_215_143, st_215_146, ini_215, fs_cl, fs_len, fs_rf, fs_M, fs_put, fs_cpy, ↓reduceIte, rv_ref, true_or, or_true, true_and, and_true, nI_ltI, ix_nI, nI_clamp, ps_i, ps_n, Option.bind_some, sm_0, sm_1, sm_2, sm_3, sm_4, sto_0, sto_1, sto_2, sto_3, sto_4, sto_5, sto_6, sto_7, sto_8, sto_9, sto_10, sto_11, sto_12, sto_13, sto_14, nlo_n, nlo_i, nlo_r, nlo_0, nlo_l, and_self, or_self, Nat.reduceEqDiff, Nat.reduceLT, Nat.reduceLeDiff, Nat.one_ne_zero, Nat.zero_ne_one, e1]
  | succ r ih =>
    intro k M hr
    have e1 : k < n := by omega
    have i1 : 40 * p + i + k < 160 := by omega
    have i2 : k < 40 := by omega
    obtain ⟨M', p1, p2, p3, p4⟩ := ih (k + 1) (j_up M (o + 11) k (M (o + 10) (40 * p + i + k))) (by omega)
    refine ⟨M', ?_, fun j h1 h2 => ?_, fun j hj => by rw [p3 j (by omega), up_k _ _ _ _ (by omega)], fun x hx => by rw [p4 x hx, up_r _ _ _ _ hx]⟩
    · rw [← p1, st_215_115]
      simp (disch := omega) only [st_215_117, st_215_119, st_215_122, st_215_123, st_215_126, st_215_128, st_215_129, st_215_132, st_215_134, st_215_135, st_215_136, st_215_137, st_215_138, st_215_140, st_215_141, st_215_142, st_215_143, st_215_146, ini_215, fs_cl, fs_len, fs_rf, fs_M, fs_put, fs_cpy, ↓reduceIte, rv_ref, true_or, or_true, true_and, and_true, nI_ltI, ix_nI, nI_clamp, ps_i, ps_n, Option.bind_some, sm_0, sm_1, sm_2, sm_3, sm_4, sto_0, sto_1, sto_2, sto_3, sto_4, sto_5, sto_6, sto_7, sto_8, sto_9, sto_10, sto_11, sto_12, sto_13, sto_14, nlo_n, nlo_i, nlo_r, nlo_0, nlo_l, and_self, or_self, Nat.reduceEqDiff, Nat.reduceLT, Nat.reduceLeDiff, Nat.one_ne_zero, Nat.zero_ne_one, m0, qa, baa, bab, ql, bla, blb, e1, i1, i2, nI_mul, nI_add]
    · by_cases ej : j = k
      · rw [ej, p3 k (by omega), up_s]
      · rw [p2 j (by omega) h2, up_o _ _ _ _ _ (by omega)]
theorem r215b (hk : Md h o) {q j n : Nat} (hq : q < 4) (hj : j + n ≤ 40) {x1 x2 : Int32} {e : Nat} : ∀ r k (M : Nat → Nat → Int32), r + k = n → ∃ M', j_X e 215 152 [some (.ref o), some (.int x1), some (.int x2), some (.int (nI q)), some (.int (nI j)), some (.int (nI n)), some (.int (nI k))] [] (FS h M) = some (some (.int (nI n)), FS h M') ∧ (∀ l, k ≤ l → l < n → M' (o + 10) (40 * q + j + l) = M (o + 11) l) ∧ (∀ l, l < 40 * q + j + k ∨ 40 * q + j + n ≤ l → M' (o + 10) l = M (o + 10) l) ∧ ∀ x, x ≠ o + 10 → M' x = M x := by
  have m0 := hk.1
  have qa := hk.2.2.2.2.2.2.2.2.2.2.1.1
  have baa := hk.2.2.2.2.2.2.2.2.2.2.1.2.1
  have bab := hk.2.2.2.2.2.2.2.2.2.2.1.2.2.1
  have ql := hk.2.2.2.2.2.2.2.2.2.2.2.1
  have bla := hk.2.2.2.2.2.2.2.2.2.2.2.2.1
  have blb := hk.2.2.2.2.2.2.2.2.2.2.2.2.2.1
  intro r
  induction r with
  | zero =>
    intro k M hr
    have ek : k = n := by omega
    have e1 : ¬ n < n := by omega
    subst ek
    refine ⟨M, ?_, fun j h1 h2 => by omega, fun _ _ => rfl, fun _ _ => rfl⟩
    rw [st_215_152]
    simp (disch := omega) only [st_215_154, st_215_156, st_215_159, st_215_160, st_215_163, st_215_165, st_215_166, st_215_167, st_215_169, st_215_170, st_215_172, st_215_173, st_215_174, st_215_177, st_215_179, st_215_180, st_215_181, st_215_184, st_215_187, st_215_189, ini_215, fs_cl, fs_len, fs_rf, fs_M, fs_put, fs_cpy, ↓reduceIte, rv_ref, true_or, or_true, true_and, and_true, nI_ltI, ix_nI, nI_clamp, ps_i, ps_n, Option.bind_some, sm_0, sm_1, sm_2, sm_3, sm_4, sto_0, sto_1, sto_2, sto_3, sto_4, sto_5, sto_6, sto_7, sto_8, sto_9, sto_10, sto_11, sto_12, sto_13, sto_14, nlo_n, nlo_i, nlo_r, nlo_0, nlo_l, and_self, or_self, Nat.reduceEqDiff, Nat.reduceLT, Nat.reduceLeDiff, Nat.one_ne_zero, Nat.zero_ne_one, e1]
  | succ r ih =>
    intro k M hr
    have e1 : k < n := by omega
    have i1 : 40 * q + j + k < 160 := by omega
    have i2 : k < 40 := by omega
    obtain ⟨M', p1, p2, p3, p4⟩ := ih (k + 1) (j_up M (o + 10) (40 * q + j + k) (M (o + 11) k)) (by omega)
    refine ⟨M', ?_, fun l h1 h2 => ?_, fun l hl => by rw [p3 l (by omega), up_k _ _ _ _ (by omega)], fun x hx => by rw [p4 x hx, up_r _ _ _ _ hx]⟩
    · rw [← p1, st_215_152]
      simp (disch := omega) only [st_215_154, st_215_156, st_215_159, st_215_160, st_215_163, st_215_165, st_215_166, st_215_167, st_215_169, st_215_170, st_215_172, st_215_173, st_215_174, st_215_177, st_215_179, st_215_180, st_215_181, st_215_184, ini_215, fs_cl, fs_len, fs_rf, fs_M, fs_put, fs_cpy, ↓reduceIte, rv_ref, true_or, or_true, true_and, and_true, nI_ltI, ix_nI, nI_clamp, ps_i, ps_n, Option.bind_some, sm_0, sm_1, sm_2, sm_3, sm_4, sto_0, sto_1, sto_2, sto_3, sto_4, sto_5, sto_6, sto_7, sto_8, sto_9, sto_10, sto_11, sto_12, sto_13, sto_14, nlo_n, nlo_i, nlo_r, nlo_0, nlo_l, and_self, or_self, Nat.reduceEqDiff, Nat.reduceLT, Nat.reduceLeDiff, Nat.one_ne_zero, Nat.zero_ne_one, m0, qa, baa, bab, ql, bla, blb, e1, i1, i2, nI_mul, nI_add]
    · by_cases el : l = k
      · rw [el, p3 _ (by omega), up_s]
      · rw [p2 l (by omega) h2, up_o _ _ _ _ _ (by omega)]
theorem g_move (hh : Hd h) (hi : IE M E z K0 K1 T W) (x i y j n : Int32) : Go h M 110 215 [.int x, .int i, .int y, .int j, .int n] := by
  have w0 := hh.1.1
  have f0 := hh.1.2.1
  have r7 := hh.1.2.2.2.2.2.2.2.1
  have mk := hh.2.1.1
  have th := hh.2.2.2.1.1
  have md : Md h 115 := hh.2.2.2.2.2.2.2.1
  have m0 := md.1
  have q0 := md.2.1.1
  have a1 := md.2.1.2.1
  have a2 := md.2.1.2.2.1
  have hw := hi.1.1
  have h6 := hw.1
  have h8 := hw.2.1
  have hm := hi.2.1.1
  have hs := hm.1
  have hR : RC M 115 E z K0 K1 := hi.2.2.1.1
  have sd := hi.2.2.2.1
  have e10 : ¬ nI 1 = nI 0 := by decide +kernel
  have hSP := hi.2.2.2.2.2.2.2.2.1
  have q8 := md.2.2.2.2.2.2.2.2.1.1
  have b8a := md.2.2.2.2.2.2.2.2.1.2.1
  have b8b := md.2.2.2.2.2.2.2.2.1.2.2.1
  have q9 := md.2.2.2.2.2.2.2.2.2.1.1
  have b9a := md.2.2.2.2.2.2.2.2.2.1.2.1
  have b9b := md.2.2.2.2.2.2.2.2.2.1.2.2.1
  by_cases hx : ∃ j, 0 ≤ j ∧ j ≤ 3 ∧ x = nI j
  · obtain ⟨s, _, hs3, rfl⟩ := hx
    have hs4 : s < 4 := by omega
    by_cases hy : ∃ j, 0 ≤ j ∧ j ≤ 3 ∧ y = nI j
    · obtain ⟨t, _, ht3, rfl⟩ := hy
      have ht4 : t < 4 := by omega
      obtain ⟨bs, ns, hb, hn, h0, a1', a2', a3', a4', a5'⟩ := hSP s hs4
      obtain ⟨bt_, nt, gb, gn, g0, c1', c2', c3', c4', c5'⟩ := hSP t ht4
      obtain ⟨_, rk, rf0, nb⟩ := hh.2.2.2.2.2.1.2.2 s hs4
      obtain ⟨_, sk, sf0, mb⟩ := hh.2.2.2.2.2.1.2.2 t ht4
      have fcs : ∀ k x, x ≠ 114 → fc k M x = M x := fun k x hx => by unfold fc; exact up_r _ _ _ _ hx
      by_cases z1 : bs = 0 ∨ bt_ = 0
      · refine go_f hi (k := 2) ?_
        intro e he
        obtain ⟨e, rfl⟩ : ∃ d, e = d + 1 := ⟨e - 1, by omega⟩
        have k1 := c121 (M := M) hh hs4 (e := e) (by omega)
        have k1' := c121 (M := M) hh ht4 (e := e) (by omega)
        have k5 := c55 (M := M) hh hs4 a1' (by omega) (e := e) (by omega)
        have k5' := c55 (M := M) hh ht4 c1' (by omega) (e := e) (by omega)
        have kf := c119 (M := M) hh (k := 2) (by omega) (e := e) (by omega)
        have k2 := r212 (σ := FS h (fc 2 M)) hs4 (e := e) (by omega)
        have k2' := r212 (σ := FS h (fc 2 M)) ht4 (e := e) (by omega)
        have kf2 := r142 (M := fc 2 M) md (k := 2) (by omega) (e := e) (by omega)
        have u2 : fc 2 M 123 s = nI bs := by rw [fcs 2 123 (by omega)]; exact a2'
        have u2' : fc 2 M 123 t = nI bt_ := by rw [fcs 2 123 (by omega)]; exact c2'
        refine ⟨M, fc 2 M, ?_, cq_r, sd, ?_, rg_r, RC_fc hR⟩
        · by_cases zz : bs = 0
          · rw [if_pos zz] at k5
            (rw [j_C_eq]; simp (disch := omega) only [st_110_0, st_110_1, st_110_2, st_110_5, st_110_5N, st_110_7, st_110_8, st_110_9, st_110_12, st_110_12N, st_110_14, st_110_14N, st_110_16, st_110_16N, st_110_19, st_110_19N, st_110_21, st_110_21N, st_110_24, st_110_25, st_110_26, st_110_29, st_110_30, st_110_30N, st_110_32, st_110_35, st_110_38, st_110_38N, st_110_40, st_110_43, st_110_46, st_110_47, st_110_48, st_110_51, st_110_52, st_110_52N, st_110_54, st_110_57, st_110_57N, st_110_59, st_110_62, st_110_65, st_110_66, st_110_67, st_110_70, st_110_71, st_110_71N, st_110_73, st_110_76, st_110_76N, st_110_78, st_110_81, st_110_82, st_110_84, st_110_86, st_110_89, st_110_92, st_110_94, st_110_97, st_110_98, st_110_99, st_110_102, ini_110, fs_cl, fs_len, fs_rf, fs_M, fs_put, fs_cpy, ↓reduceIte, rv_ref, true_or, or_true, true_and, and_true, nI_ltI, ix_nI, nI_clamp, ps_i, ps_n, Option.bind_some, sm_0, sm_1, sm_2, sm_3, sm_4, sto_0, sto_1, sto_2, sto_3, sto_4, sto_5, sto_6, sto_7, sto_8, sto_9, sto_10, sto_11, sto_12, sto_13, sto_14, nlo_n, nlo_i, nlo_r, nlo_0, nlo_l, and_self, or_self, Nat.reduceEqDiff, Nat.reduceLT, Nat.reduceLeDiff, Nat.one_ne_zero, Nat.zero_ne_one, w0, f0, r7, m0, q0, a1, a2, e10, k1, k1', rk, sk, k5, kf])
          · rw [if_neg zz] at k5
            rw [if_pos (z1.resolve_left zz)] at k5'
            (rw [j_C_eq]; simp (disch := omega) only [st_110_0, st_110_1, st_110_2, st_110_5, st_110_5N, st_110_7, st_110_8, st_110_9, st_110_12, st_110_12N, st_110_14, st_110_14N, st_110_16, st_110_16N, st_110_19, st_110_19N, st_110_21, st_110_21N, st_110_24, st_110_25, st_110_26, st_110_29, st_110_30, st_110_30N, st_110_32, st_110_35, st_110_38, st_110_38N, st_110_40, st_110_43, st_110_46, st_110_47, st_110_48, st_110_51, st_110_52, st_110_52N, st_110_54, st_110_57, st_110_57N, st_110_59, st_110_62, st_110_65, st_110_66, st_110_67, st_110_70, st_110_71, st_110_71N, st_110_73, st_110_76, st_110_76N, st_110_78, st_110_81, st_110_82, st_110_84, st_110_86, st_110_89, st_110_92, st_110_94, st_110_97, st_110_98, st_110_99, st_110_102, ini_110, fs_cl, fs_len, fs_rf, fs_M, fs_put, fs_cpy, ↓reduceIte, rv_ref, true_or, or_true, true_and, and_true, nI_ltI, ix_nI, nI_clamp, ps_i, ps_n, Option.bind_some, sm_0, sm_1, sm_2, sm_3, sm_4, sto_0, sto_1, sto_2, sto_3, sto_4, sto_5, sto_6, sto_7, sto_8, sto_9, sto_10, sto_11, sto_12, sto_13, sto_14, nlo_n, nlo_i, nlo_r, nlo_0, nlo_l, and_self, or_self, Nat.reduceEqDiff, Nat.reduceLT, Nat.reduceLeDiff, Nat.one_ne_zero, Nat.zero_ne_one, w0, f0, r7, m0, q0, a1, a2, e10, k1, k1', rk, sk, k5, k5', kf])
        · by_cases zz : bs = 0
          · rw [zz] at u2
            (rw [j_C_eq]; simp (disch := omega) only [st_215_0, st_215_1, st_215_4, st_215_7, st_215_8, st_215_11, st_215_14, st_215_15, st_215_16, st_215_19, st_215_20, st_215_21, st_215_24, st_215_25, st_215_26, st_215_29, st_215_30, st_215_33, st_215_34, st_215_35, st_215_38, st_215_39, st_215_40, st_215_43, st_215_44, st_215_45, st_215_48, st_215_49, st_215_50, st_215_51, st_215_54, st_215_55, st_215_56, st_215_59, st_215_60, st_215_61, st_215_64, st_215_65, st_215_67, st_215_70, st_215_71, st_215_74, st_215_76, st_215_79, st_215_81, st_215_82, st_215_85, st_215_86, st_215_87, st_215_88, st_215_89, st_215_92, st_215_94, st_215_95, st_215_98, st_215_99, st_215_100, st_215_102, st_215_103, st_215_106, st_215_107, st_215_108, st_215_111, st_215_112, st_215_113, st_215_117, st_215_119, st_215_122, st_215_123, st_215_126, st_215_128, st_215_129, st_215_132, st_215_134, st_215_135, st_215_136, st_215_137, st_215_138, st_215_140, st_215_141, st_215_142, st_215_143, st_215_146, st_215_149, st_215_150, st_215_154, st_215_156, st_215_159, st_215_160, st_215_163, st_215_165, st_215_166, st_215_167, st_215_169, st_215_170, st_215_172, st_215_173, st_215_174, st_215_177, st_215_179, st_215_180, st_215_181, st_215_184, st_215_187, st_215_189, ini_215, fs_cl, fs_len, fs_rf, fs_M, fs_put, fs_cpy, ↓reduceIte, rv_ref, true_or, or_true, true_and, and_true, nI_ltI, ix_nI, nI_clamp, ps_i, ps_n, Option.bind_some, sm_0, sm_1, sm_2, sm_3, sm_4, sto_0, sto_1, sto_2, sto_3, sto_4, sto_5, sto_6, sto_7, sto_8, sto_9, sto_10, sto_11, sto_12, sto_13, sto_14, nlo_n, nlo_i, nlo_r, nlo_0, nlo_l, and_self, or_self, Nat.reduceEqDiff, Nat.reduceLT, Nat.reduceLeDiff, Nat.one_ne_zero, Nat.zero_ne_one, w0, f0, r7, m0, q0, a1, a2, e10, q8, b8a, b8b, k2, k2', hs4, ht4, u2, kf2])
          · have nz : ¬ nI bs = nI 0 := nI_ne zz (by omega) (by omega)
            rw [z1.resolve_left zz] at u2'
            (rw [j_C_eq]; simp (disch := omega) only [st_215_0, st_215_1, st_215_4, st_215_7, st_215_8, st_215_11, st_215_14, st_215_15, st_215_16, st_215_19, st_215_20, st_215_21, st_215_24, st_215_25, st_215_26, st_215_29, st_215_30, st_215_33, st_215_34, st_215_35, st_215_38, st_215_39, st_215_40, st_215_43, st_215_44, st_215_45, st_215_48, st_215_49, st_215_50, st_215_51, st_215_54, st_215_55, st_215_56, st_215_59, st_215_60, st_215_61, st_215_64, st_215_65, st_215_67, st_215_70, st_215_71, st_215_74, st_215_76, st_215_79, st_215_81, st_215_82, st_215_85, st_215_86, st_215_87, st_215_88, st_215_89, st_215_92, st_215_94, st_215_95, st_215_98, st_215_99, st_215_100, st_215_102, st_215_103, st_215_106, st_215_107, st_215_108, st_215_111, st_215_112, st_215_113, st_215_117, st_215_119, st_215_122, st_215_123, st_215_126, st_215_128, st_215_129, st_215_132, st_215_134, st_215_135, st_215_136, st_215_137, st_215_138, st_215_140, st_215_141, st_215_142, st_215_143, st_215_146, st_215_149, st_215_150, st_215_154, st_215_156, st_215_159, st_215_160, st_215_163, st_215_165, st_215_166, st_215_167, st_215_169, st_215_170, st_215_172, st_215_173, st_215_174, st_215_177, st_215_179, st_215_180, st_215_181, st_215_184, st_215_187, st_215_189, ini_215, fs_cl, fs_len, fs_rf, fs_M, fs_put, fs_cpy, ↓reduceIte, rv_ref, true_or, or_true, true_and, and_true, nI_ltI, ix_nI, nI_clamp, ps_i, ps_n, Option.bind_some, sm_0, sm_1, sm_2, sm_3, sm_4, sto_0, sto_1, sto_2, sto_3, sto_4, sto_5, sto_6, sto_7, sto_8, sto_9, sto_10, sto_11, sto_12, sto_13, sto_14, nlo_n, nlo_i, nlo_r, nlo_0, nlo_l, and_self, or_self, Nat.reduceEqDiff, Nat.reduceLT, Nat.reduceLeDiff, Nat.one_ne_zero, Nat.zero_ne_one, w0, f0, r7, m0, q0, a1, a2, e10, q8, b8a, b8b, k2, k2', hs4, ht4, u2, nz, u2', kf2])
      · have z1a : ¬ bs = 0 := fun hh => z1 (.inl hh)
        have z1b : ¬ bt_ = 0 := fun hh => z1 (.inr hh)
        have nz : ¬ nI bs = nI 0 := nI_ne z1a (by omega) (by omega)
        have nz' : ¬ nI bt_ = nI 0 := nI_ne z1b (by omega) (by omega)
        by_cases z2 : bs = bt_
        · subst z2
          by_cases hP : 0 ≤ n.toInt ∧ 0 ≤ i.toInt ∧ 0 ≤ j.toInt ∧ i.toInt + n.toInt ≤ ns ∧ j.toInt + n.toInt ≤ nt
          · obtain ⟨P1, P2, P3, P4, P5⟩ := hP
            obtain ⟨nn, en, tn⟩ : ∃ m : Nat, n = nI m ∧ (m : Int) = n.toInt := ⟨n.toInt.toNat, by rw [nI_z, Int.toNat_of_nonneg P1]; exact zI_of n, Int.toNat_of_nonneg P1⟩
            obtain ⟨ii, ei, ti⟩ : ∃ m : Nat, i = nI m ∧ (m : Int) = i.toInt := ⟨i.toInt.toNat, by rw [nI_z, Int.toNat_of_nonneg P2]; exact zI_of i, Int.toNat_of_nonneg P2⟩
            obtain ⟨jj, ej, tj⟩ : ∃ m : Nat, j = nI m ∧ (m : Int) = j.toInt := ⟨j.toInt.toNat, by rw [nI_z, Int.toNat_of_nonneg P3]; exact zI_of j, Int.toNat_of_nonneg P3⟩
            have Q4 : ii + nn ≤ ns := by omega
            have Q5 : jj + nn ≤ nt := by omega
            clear tn ti tj P1 P2 P3 P4 P5
            subst en; subst ei; subst ej
            intro e he
            obtain ⟨e, rfl⟩ : ∃ d, e = d + 1 := ⟨e - 1, by omega⟩
            have k1 := c121 (M := M) hh hs4 (e := e) (by omega)
            have k1' := c121 (M := M) hh ht4 (e := e) (by omega)
            have k5 := c55 (M := M) hh hs4 a1' (by omega) (e := e) (by omega)
            have k5' := c55 (M := M) hh ht4 c1' (by omega) (e := e) (by omega)
            rw [if_neg z1a] at k5
            rw [if_neg z1a] at k5'
            have kc := n42e (M := M) mb nb c3' a3' gn hn Q4 Q5 (e := e) (by omega)
            generalize hM1 : j_up1 M (103 + 3 * t) (va_cpy (M (103 + 3 * s)) (M (103 + 3 * t)) ii jj nn) = M1 at kc
            have m1a : ∀ x, x ≠ 103 + 3 * t → M1 x = M x := fun x hx => by rw [← hM1]; unfold j_up1; rw [if_neg hx]
            have m1b : ∀ l, M1 (103 + 3 * t) l = if jj ≤ l ∧ l < jj + nn then M (103 + 3 * s) (ii + (l - jj)) else M (103 + 3 * t) l := fun l => by rw [← hM1]; unfold j_up1 va_cpy; rw [if_pos rfl]
            obtain ⟨M2, r1, r2, r3, r4⟩ := r215a (h := h) (x2 := none) (x3 := nI t) (x4 := nI jj) (e := e) md hs4 (by omega : ii + nn ≤ 40) nn 0 M1 (by omega)
            obtain ⟨M3, s1, s2, s3, s4⟩ := r215b (h := h) (x1 := nI s) (x2 := nI ii) (e := e) md ht4 (by omega : jj + nn ≤ 40) nn 0 M2 (by omega)
            have k2 := r212 (σ := FS h M1) hs4 (e := e) (by omega)
            have k2' := r212 (σ := FS h M1) ht4 (e := e) (by omega)
            have u2 : M1 (115 + 8) s = nI bs := by rw [m1a (115 + 8) (by omega)]; exact a2'
            have u2' : M1 (115 + 8) t = nI bs := by rw [m1a (115 + 8) (by omega)]; exact c2'
            have u4 : M1 (115 + 9) s = nI ns := by rw [m1a (115 + 9) (by omega)]; exact a4'
            have u4' : M1 (115 + 9) t = nI nt := by rw [m1a (115 + 9) (by omega)]; exact c4'
            have w1 : ¬ nI nn < nI 0 := nI_nlt (Nat.zero_le _) (by omega)
            have w2 : ¬ nI ii < nI 0 := nI_nlt (Nat.zero_le _) (by omega)
            have w3 : ¬ nI jj < nI 0 := nI_nlt (Nat.zero_le _) (by omega)
            have w4 : ¬ ns - ii < nn := by omega
            have w5 : ¬ nt - jj < nn := by omega
            refine ⟨nI nn, M1, M3, ?_, ?_, m1a 1003 (by omega), E, z, K0, K1, T, W, ?_⟩
            · (rw [j_C_eq]; simp (disch := omega) only [st_110_0, st_110_1, st_110_2, st_110_5, st_110_5N, st_110_7, st_110_8, st_110_9, st_110_12, st_110_12N, st_110_14, st_110_14N, st_110_16, st_110_16N, st_110_19, st_110_19N, st_110_21, st_110_21N, st_110_24, st_110_25, st_110_26, st_110_29, st_110_30, st_110_30N, st_110_32, st_110_35, st_110_38, st_110_38N, st_110_40, st_110_43, st_110_46, st_110_47, st_110_48, st_110_51, st_110_52, st_110_52N, st_110_54, st_110_57, st_110_57N, st_110_59, st_110_62, st_110_65, st_110_66, st_110_67, st_110_70, st_110_71, st_110_71N, st_110_73, st_110_76, st_110_76N, st_110_78, st_110_81, st_110_82, st_110_84, st_110_86, st_110_89, st_110_92, st_110_94, st_110_97, st_110_98, st_110_99, st_110_102, ini_110, fs_cl, fs_len, fs_rf, fs_M, fs_put, fs_cpy, ↓reduceIte, rv_ref, true_or, or_true, true_and, and_true, nI_ltI, ix_nI, nI_clamp, ps_i, ps_n, Option.bind_some, sm_0, sm_1, sm_2, sm_3, sm_4, sto_0, sto_1, sto_2, sto_3, sto_4, sto_5, sto_6, sto_7, sto_8, sto_9, sto_10, sto_11, sto_12, sto_13, sto_14, nlo_n, nlo_i, nlo_r, nlo_0, nlo_l, and_self, or_self, Nat.reduceEqDiff, Nat.reduceLT, Nat.reduceLeDiff, Nat.one_ne_zero, Nat.zero_ne_one, w0, f0, r7, m0, q0, a1, a2, e10, k1, k1', rk, sk, rf0, sf0, nb.1, mb.1, k5, k5', a1', c1', kc])
            · rw [j_C_eq]
              simp (disch := omega) only [st_215_0, st_215_1, st_215_4, st_215_7, st_215_8, st_215_11, st_215_14, st_215_15, st_215_16, st_215_19, st_215_20, st_215_21, st_215_24, st_215_25, st_215_26, st_215_29, st_215_30, st_215_33, st_215_34, st_215_35, st_215_38, st_215_39, st_215_40, st_215_43, st_215_44, st_215_45, st_215_48, st_215_49, st_215_50, st_215_51, st_215_54, st_215_55, st_215_56, st_215_59, st_215_60, st_215_61, st_215_64, st_215_65, st_215_67, st_215_70, st_215_71, st_215_74, st_215_76, st_215_79, st_215_81, st_215_82, st_215_85, st_215_86, st_215_87, st_215_88, st_215_89, st_215_92, st_215_94, st_215_95, st_215_98, st_215_99, st_215_100, st_215_102, st_215_103, st_215_106, st_215_107, st_215_108, st_215_111, st_215_112, st_215_113, ini_215, fs_cl, fs_len, fs_rf, fs_M, fs_put, fs_cpy, ↓reduceIte, rv_ref, true_or, or_true, true_and, and_true, nI_ltI, ix_nI, nI_clamp, ps_i, ps_n, Option.bind_some, sm_0, sm_1, sm_2, sm_3, sm_4, sto_0, sto_1, sto_2, sto_3, sto_4, sto_5, sto_6, sto_7, sto_8, sto_9, sto_10, sto_11, sto_12, sto_13, sto_14, nlo_n, nlo_i, nlo_r, nlo_0, nlo_l, and_self, or_self, Nat.reduceEqDiff, Nat.reduceLT, Nat.reduceLeDiff, Nat.one_ne_zero, Nat.zero_ne_one, m0, q8, b8a, b8b, q9, b9a, b9b, e10, k2, k2', hs4, ht4, u2, u2', nz, u4, u4', w1, w2, w3, nI_sub, w4, w5]
              rw [r1]
              simp (disch := omega) only [st_215_149, st_215_150, ini_215, fs_cl, fs_len, fs_rf, fs_M, fs_put, fs_cpy, ↓reduceIte, rv_ref, true_or, or_true, true_and, and_true, nI_ltI, ix_nI, nI_clamp, ps_i, ps_n, Option.bind_some, sm_0, sm_1, sm_2, sm_3, sm_4, sto_0, sto_1, sto_2, sto_3, sto_4, sto_5, sto_6, sto_7, sto_8, sto_9, sto_10, sto_11, sto_12, sto_13, sto_14, nlo_n, nlo_i, nlo_r, nlo_0, nlo_l, and_self, or_self, Nat.reduceEqDiff, Nat.reduceLT, Nat.reduceLeDiff, Nat.one_ne_zero, Nat.zero_ne_one]
              exact s1
            · have f1 : ∀ x, x ≠ 103 + 3 * t → x ≠ 125 → x ≠ 126 → M3 x = M x := fun x h1 h2 h3 => by rw [s4 x h2, r4 x h3, m1a x h1]
              have f3 : M3 (103 + 3 * t) = M1 (103 + 3 * t) := by rw [s4 _ (by omega), r4 _ (by omega)]
              have f125 : ∀ l, l < 40 * t + jj ∨ 40 * t + jj + nn ≤ l → M3 125 l = M 125 l := fun l hl => by
                have := s3 l (by omega)
                rw [show M3 125 = M3 (115 + 10) from rfl, this, r4 (115 + 10) (by omega), m1a (115 + 10) (by omega)]
              refine ie_sp hi (fun x h1 h2 => f1 x (by omega) (by omega) (by omega)) (SP_up hSP ht4 (fun u hu hne => ?_) gb gn g0 ?_ ?_ ?_ ?_ ?_)
              · exact ⟨f1 _ (by omega) (by omega) (by omega), f1 _ (by omega) (by omega) (by omega), f1 _ (by omega) (by omega) (by omega), by rw [f1 123 (by omega) (by omega) (by omega)], by rw [f1 124 (by omega) (by omega) (by omega)], fun l hl => f125 _ (by omega)⟩
              · rw [f1 _ (by omega) (by omega) (by omega)]; exact c1'
              · rw [f1 123 (by omega) (by omega) (by omega)]; exact c2'
              · rw [f1 _ (by omega) (by omega) (by omega)]; exact c3'
              · rw [f1 124 (by omega) (by omega) (by omega)]; exact c4'
              · intro l hl
                rw [f3, m1b l]
                by_cases hc : jj ≤ l ∧ l < jj + nn
                · rw [if_pos hc]
                  have := s2 (l - jj) (by omega) (by omega)
                  rw [show 40 * t + jj + (l - jj) = 40 * t + l by omega, r2 (l - jj) (by omega) (by omega), m1a (115 + 10) (by omega)] at this
                  rw [show M3 125 (40 * t + l) = M (115 + 10) (40 * s + ii + (l - jj)) from this, show 40 * s + ii + (l - jj) = 40 * s + (ii + (l - jj)) by omega]
                  exact a5' (ii + (l - jj)) (by omega)
                · rw [if_neg hc, f125 _ (by omega)]
                  exact c5' l hl
          · refine go_f hi (k := 1) ?_
            intro e he
            obtain ⟨e, rfl⟩ : ∃ d, e = d + 1 := ⟨e - 1, by omega⟩
            have k1 := c121 (M := M) hh hs4 (e := e) (by omega)
            have k1' := c121 (M := M) hh ht4 (e := e) (by omega)
            have k5 := c55 (M := M) hh hs4 a1' (by omega) (e := e) (by omega)
            have k5' := c55 (M := M) hh ht4 c1' (by omega) (e := e) (by omega)
            rw [if_neg z1a] at k5
            rw [if_neg z1a] at k5'
            have kc := n42fe (M := M) (i := i) (j := j) (n := n) mb.1 nb.1 c3' a3' (by omega) (by omega) hP (e := e) (by omega)
            have kf := c119 (M := M) hh (k := 1) (by omega) (e := e) (by omega)
            have k2 := r212 (σ := FS h (fc 1 M)) hs4 (e := e) (by omega)
            have k2' := r212 (σ := FS h (fc 1 M)) ht4 (e := e) (by omega)
            have kf2 := r142 (M := fc 1 M) md (k := 1) (by omega) (e := e) (by omega)
            have u2 : fc 1 M 123 s = nI bs := by rw [fcs 1 123 (by omega)]; exact a2'
            have u2' : fc 1 M 123 t = nI bs := by rw [fcs 1 123 (by omega)]; exact c2'
            have u4 : fc 1 M 124 s = nI ns := by rw [fcs 1 124 (by omega)]; exact a4'
            have u4' : fc 1 M 124 t = nI nt := by rw [fcs 1 124 (by omega)]; exact c4'
            refine ⟨M, fc 1 M, ?_, cq_r, sd, ?_, rg_r, RC_fc hR⟩
            · (rw [j_C_eq]; simp (disch := omega) only [st_110_0, st_110_1, st_110_2, st_110_5, st_110_5N, st_110_7, st_110_8, st_110_9, st_110_12, st_110_12N, st_110_14, st_110_14N, st_110_16, st_110_16N, st_110_19, st_110_19N, st_110_21, st_110_21N, st_110_24, st_110_25, st_110_26, st_110_29, st_110_30, st_110_30N, st_110_32, st_110_35, st_110_38, st_110_38N, st_110_40, st_110_43, st_110_46, st_110_47, st_110_48, st_110_51, st_110_52, st_110_52N, st_110_54, st_110_57, st_110_57N, st_110_59, st_110_62, st_110_65, st_110_66, st_110_67, st_110_70, st_110_71, st_110_71N, st_110_73, st_110_76, st_110_76N, st_110_78, st_110_81, st_110_82, st_110_84, st_110_86, st_110_89, st_110_92, st_110_94, st_110_97, st_110_98, st_110_99, st_110_102, ini_110, fs_cl, fs_len, fs_rf, fs_M, fs_put, fs_cpy, ↓reduceIte, rv_ref, true_or, or_true, true_and, and_true, nI_ltI, ix_nI, nI_clamp, ps_i, ps_n, Option.bind_some, sm_0, sm_1, sm_2, sm_3, sm_4, sto_0, sto_1, sto_2, sto_3, sto_4, sto_5, sto_6, sto_7, sto_8, sto_9, sto_10, sto_11, sto_12, sto_13, sto_14, nlo_n, nlo_i, nlo_r, nlo_0, nlo_l, and_self, or_self, Nat.reduceEqDiff, Nat.reduceLT, Nat.reduceLeDiff, Nat.one_ne_zero, Nat.zero_ne_one, w0, f0, r7, m0, q0, a1, a2, e10, k1, k1', rk, sk, rf0, sf0, nb.1, mb.1, k5, k5', a1', c1', kc, kf])
            · by_cases w1 : n < nI 0
              · (rw [j_C_eq]; simp (disch := omega) only [st_215_0, st_215_1, st_215_4, st_215_7, st_215_8, st_215_11, st_215_14, st_215_15, st_215_16, st_215_19, st_215_20, st_215_21, st_215_24, st_215_25, st_215_26, st_215_29, st_215_30, st_215_33, st_215_34, st_215_35, st_215_38, st_215_39, st_215_40, st_215_43, st_215_44, st_215_45, st_215_48, st_215_49, st_215_50, st_215_51, st_215_54, st_215_55, st_215_56, st_215_59, st_215_60, st_215_61, st_215_64, st_215_65, st_215_67, st_215_70, st_215_71, st_215_74, st_215_76, st_215_79, st_215_81, st_215_82, st_215_85, st_215_86, st_215_87, st_215_88, st_215_89, st_215_92, st_215_94, st_215_95, st_215_98, st_215_99, st_215_100, st_215_102, st_215_103, st_215_106, st_215_107, st_215_108, st_215_111, st_215_112, st_215_113, st_215_117, st_215_119, st_215_122, st_215_123, st_215_126, st_215_128, st_215_129, st_215_132, st_215_134, st_215_135, st_215_136, st_215_137, st_215_138, st_215_140, st_215_141, st_215_142, st_215_143, st_215_146, st_215_149, st_215_150, st_215_154, st_215_156, st_215_159, st_215_160, st_215_163, st_215_165, st_215_166, st_215_167, st_215_169, st_215_170, st_215_172, st_215_173, st_215_174, st_215_177, st_215_179, st_215_180, st_215_181, st_215_184, st_215_187, st_215_189, ini_215, fs_cl, fs_len, fs_rf, fs_M, fs_put, fs_cpy, ↓reduceIte, rv_ref, true_or, or_true, true_and, and_true, nI_ltI, ix_nI, nI_clamp, ps_i, ps_n, Option.bind_some, sm_0, sm_1, sm_2, sm_3, sm_4, sto_0, sto_1, sto_2, sto_3, sto_4, sto_5, sto_6, sto_7, sto_8, sto_9, sto_10, sto_11, sto_12, sto_13, sto_14, nlo_n, nlo_i, nlo_r, nlo_0, nlo_l, and_self, or_self, Nat.reduceEqDiff, Nat.reduceLT, Nat.reduceLeDiff, Nat.one_ne_zero, Nat.zero_ne_one, w0, f0, r7, m0, q0, a1, a2, e10, q8, b8a, b8b, k2, k2', hs4, ht4, u2, u2', nz, w1, kf2])
              · by_cases w2 : i < nI 0
                · (rw [j_C_eq]; simp (disch := omega) only [st_215_0, st_215_1, st_215_4, st_215_7, st_215_8, st_215_11, st_215_14, st_215_15, st_215_16, st_215_19, st_215_20, st_215_21, st_215_24, st_215_25, st_215_26, st_215_29, st_215_30, st_215_33, st_215_34, st_215_35, st_215_38, st_215_39, st_215_40, st_215_43, st_215_44, st_215_45, st_215_48, st_215_49, st_215_50, st_215_51, st_215_54, st_215_55, st_215_56, st_215_59, st_215_60, st_215_61, st_215_64, st_215_65, st_215_67, st_215_70, st_215_71, st_215_74, st_215_76, st_215_79, st_215_81, st_215_82, st_215_85, st_215_86, st_215_87, st_215_88, st_215_89, st_215_92, st_215_94, st_215_95, st_215_98, st_215_99, st_215_100, st_215_102, st_215_103, st_215_106, st_215_107, st_215_108, st_215_111, st_215_112, st_215_113, st_215_117, st_215_119, st_215_122, st_215_123, st_215_126, st_215_128, st_215_129, st_215_132, st_215_134, st_215_135, st_215_136, st_215_137, st_215_138, st_215_140, st_215_141, st_215_142, st_215_143, st_215_146, st_215_149, st_215_150, st_215_154, st_215_156, st_215_159, st_215_160, st_215_163, st_215_165, st_215_166, st_215_167, st_215_169, st_215_170, st_215_172, st_215_173, st_215_174, st_215_177, st_215_179, st_215_180, st_215_181, st_215_184, st_215_187, st_215_189, ini_215, fs_cl, fs_len, fs_rf, fs_M, fs_put, fs_cpy, ↓reduceIte, rv_ref, true_or, or_true, true_and, and_true, nI_ltI, ix_nI, nI_clamp, ps_i, ps_n, Option.bind_some, sm_0, sm_1, sm_2, sm_3, sm_4, sto_0, sto_1, sto_2, sto_3, sto_4, sto_5, sto_6, sto_7, sto_8, sto_9, sto_10, sto_11, sto_12, sto_13, sto_14, nlo_n, nlo_i, nlo_r, nlo_0, nlo_l, and_self, or_self, Nat.reduceEqDiff, Nat.reduceLT, Nat.reduceLeDiff, Nat.one_ne_zero, Nat.zero_ne_one, w0, f0, r7, m0, q0, a1, a2, e10, q8, b8a, b8b, k2, k2', hs4, ht4, u2, u2', nz, w1, w2, kf2])
                · by_cases w3 : j < nI 0
                  · (rw [j_C_eq]; simp (disch := omega) only [st_215_0, st_215_1, st_215_4, st_215_7, st_215_8, st_215_11, st_215_14, st_215_15, st_215_16, st_215_19, st_215_20, st_215_21, st_215_24, st_215_25, st_215_26, st_215_29, st_215_30, st_215_33, st_215_34, st_215_35, st_215_38, st_215_39, st_215_40, st_215_43, st_215_44, st_215_45, st_215_48, st_215_49, st_215_50, st_215_51, st_215_54, st_215_55, st_215_56, st_215_59, st_215_60, st_215_61, st_215_64, st_215_65, st_215_67, st_215_70, st_215_71, st_215_74, st_215_76, st_215_79, st_215_81, st_215_82, st_215_85, st_215_86, st_215_87, st_215_88, st_215_89, st_215_92, st_215_94, st_215_95, st_215_98, st_215_99, st_215_100, st_215_102, st_215_103, st_215_106, st_215_107, st_215_108, st_215_111, st_215_112, st_215_113, st_215_117, st_215_119, st_215_122, st_215_123, st_215_126, st_215_128, st_215_129, st_215_132, st_215_134, st_215_135, st_215_136, st_215_137, st_215_138, st_215_140, st_215_141, st_215_142, st_215_143, st_215_146, st_215_149, st_215_150, st_215_154, st_215_156, st_215_159, st_215_160, st_215_163, st_215_165, st_215_166, st_215_167, st_215_169, st_215_170, st_215_172, st_215_173, st_215_174, st_215_177, st_215_179, st_215_180, st_215_181, st_215_184, st_215_187, st_215_189, ini_215, fs_cl, fs_len, fs_rf, fs_M, fs_put, fs_cpy, ↓reduceIte, rv_ref, true_or, or_true, true_and, and_true, nI_ltI, ix_nI, nI_clamp, ps_i, ps_n, Option.bind_some, sm_0, sm_1, sm_2, sm_3, sm_4, sto_0, sto_1, sto_2, sto_3, sto_4, sto_5, sto_6, sto_7, sto_8, sto_9, sto_10, sto_11, sto_12, sto_13, sto_14, nlo_n, nlo_i, nlo_r, nlo_0, nlo_l, and_self, or_self, Nat.reduceEqDiff, Nat.reduceLT, Nat.reduceLeDiff, Nat.one_ne_zero, Nat.zero_ne_one, w0, f0, r7, m0, q0, a1, a2, e10, q8, b8a, b8b, k2, k2', hs4, ht4, u2, u2', nz, w1, w2, w3, kf2])
                  · have w1' : ¬ n.toInt < 0 := fun hh => w1 (lt0.mpr hh)
                    have w2' : ¬ i.toInt < 0 := fun hh => w2 (lt0.mpr hh)
                    have w3' : ¬ j.toInt < 0 := fun hh => w3 (lt0.mpr hh)
                    by_cases w4 : nI ns - i < n
                    · (rw [j_C_eq]; simp (disch := omega) only [st_215_0, st_215_1, st_215_4, st_215_7, st_215_8, st_215_11, st_215_14, st_215_15, st_215_16, st_215_19, st_215_20, st_215_21, st_215_24, st_215_25, st_215_26, st_215_29, st_215_30, st_215_33, st_215_34, st_215_35, st_215_38, st_215_39, st_215_40, st_215_43, st_215_44, st_215_45, st_215_48, st_215_49, st_215_50, st_215_51, st_215_54, st_215_55, st_215_56, st_215_59, st_215_60, st_215_61, st_215_64, st_215_65, st_215_67, st_215_70, st_215_71, st_215_74, st_215_76, st_215_79, st_215_81, st_215_82, st_215_85, st_215_86, st_215_87, st_215_88, st_215_89, st_215_92, st_215_94, st_215_95, st_215_98, st_215_99, st_215_100, st_215_102, st_215_103, st_215_106, st_215_107, st_215_108, st_215_111, st_215_112, st_215_113, st_215_117, st_215_119, st_215_122, st_215_123, st_215_126, st_215_128, st_215_129, st_215_132, st_215_134, st_215_135, st_215_136, st_215_137, st_215_138, st_215_140, st_215_141, st_215_142, st_215_143, st_215_146, st_215_149, st_215_150, st_215_154, st_215_156, st_215_159, st_215_160, st_215_163, st_215_165, st_215_166, st_215_167, st_215_169, st_215_170, st_215_172, st_215_173, st_215_174, st_215_177, st_215_179, st_215_180, st_215_181, st_215_184, st_215_187, st_215_189, ini_215, fs_cl, fs_len, fs_rf, fs_M, fs_put, fs_cpy, ↓reduceIte, rv_ref, true_or, or_true, true_and, and_true, nI_ltI, ix_nI, nI_clamp, ps_i, ps_n, Option.bind_some, sm_0, sm_1, sm_2, sm_3, sm_4, sto_0, sto_1, sto_2, sto_3, sto_4, sto_5, sto_6, sto_7, sto_8, sto_9, sto_10, sto_11, sto_12, sto_13, sto_14, nlo_n, nlo_i, nlo_r, nlo_0, nlo_l, and_self, or_self, Nat.reduceEqDiff, Nat.reduceLT, Nat.reduceLeDiff, Nat.one_ne_zero, Nat.zero_ne_one, w0, f0, r7, m0, q0, a1, a2, e10, q8, b8a, b8b, q9, b9a, b9b, k2, k2', hs4, ht4, u2, u2', nz, w1, w2, w3, u4, w4, kf2])
                    · have w5 : nI nt - j < n := by
                        rw [sub_lt (by omega) w3']
                        rw [sub_lt (by omega) w2'] at w4
                        refine Decidable.byContradiction (fun hh => hP ⟨by omega, by omega, by omega, by omega, by omega⟩)
                      (rw [j_C_eq]; simp (disch := omega) only [st_215_0, st_215_1, st_215_4, st_215_7, st_215_8, st_215_11, st_215_14, st_215_15, st_215_16, st_215_19, st_215_20, st_215_21, st_215_24, st_215_25, st_215_26, st_215_29, st_215_30, st_215_33, st_215_34, st_215_35, st_215_38, st_215_39, st_215_40, st_215_43, st_215_44, st_215_45, st_215_48, st_215_49, st_215_50, st_215_51, st_215_54, st_215_55, st_215_56, st_215_59, st_215_60, st_215_61, st_215_64, st_215_65, st_215_67, st_215_70, st_215_71, st_215_74, st_215_76, st_215_79, st_215_81, st_215_82, st_215_85, st_215_86, st_215_87, st_215_88, st_215_89, st_215_92, st_215_94, st_215_95, st_215_98, st_215_99, st_215_100, st_215_102, st_215_103, st_215_106, st_215_107, st_215_108, st_215_111, st_215_112, st_215_113, st_215_117, st_215_119, st_215_122, st_215_123, st_215_126, st_215_128, st_215_129, st_215_132, st_215_134, st_215_135, st_215_136, st_215_137, st_215_138, st_215_140, st_215_141, st_215_142, st_215_143, st_215_146, st_215_149, st_215_150, st_215_154, st_215_156, st_215_159, st_215_160, st_215_163, st_215_165, st_215_166, st_215_167, st_215_169, st_215_170, st_215_172, st_215_173, st_215_174, st_215_177, st_215_179, st_215_180, st_215_181, st_215_184, st_215_187, st_215_189, ini_215, fs_cl, fs_len, fs_rf, fs_M, fs_put, fs_cpy, ↓reduceIte, rv_ref, true_or, or_true, true_and, and_true, nI_ltI, ix_nI, nI_clamp, ps_i, ps_n, Option.bind_some, sm_0, sm_1, sm_2, sm_3, sm_4, sto_0, sto_1, sto_2, sto_3, sto_4, sto_5, sto_6, sto_7, sto_8, sto_9, sto_10, sto_11, sto_12, sto_13, sto_14, nlo_n, nlo_i, nlo_r, nlo_0, nlo_l, and_self, or_self, Nat.reduceEqDiff, Nat.reduceLT, Nat.reduceLeDiff, Nat.one_ne_zero, Nat.zero_ne_one, w0, f0, r7, m0, q0, a1, a2, e10, q8, b8a, b8b, q9, b9a, b9b, k2, k2', hs4, ht4, u2, u2', nz, w1, w2, w3, u4, w4, u4', w5, kf2])
        · refine go_f hi (k := 5) ?_
          intro e he
          obtain ⟨e, rfl⟩ : ∃ d, e = d + 1 := ⟨e - 1, by omega⟩
          have k1 := c121 (M := M) hh hs4 (e := e) (by omega)
          have k1' := c121 (M := M) hh ht4 (e := e) (by omega)
          have k5 := c55 (M := M) hh hs4 a1' (by omega) (e := e) (by omega)
          have k5' := c55 (M := M) hh ht4 c1' (by omega) (e := e) (by omega)
          rw [if_neg z1a] at k5
          rw [if_neg z1b] at k5'
          have kf := c119 (M := M) hh (k := 5) (by omega) (e := e) (by omega)
          have k2 := r212 (σ := FS h (fc 5 M)) hs4 (e := e) (by omega)
          have k2' := r212 (σ := FS h (fc 5 M)) ht4 (e := e) (by omega)
          have kf2 := r142 (M := fc 5 M) md (k := 5) (by omega) (e := e) (by omega)
          have u2 : fc 5 M 123 s = nI bs := by rw [fcs 5 123 (by omega)]; exact a2'
          have u2' : fc 5 M 123 t = nI bt_ := by rw [fcs 5 123 (by omega)]; exact c2'
          have ne : ¬ nI bs = nI bt_ := nI_ne z2 (by omega) (by omega)
          refine ⟨M, fc 5 M, ?_, cq_r, sd, ?_, rg_r, RC_fc hR⟩
          · (rw [j_C_eq]; simp (disch := omega) only [st_110_0, st_110_1, st_110_2, st_110_5, st_110_5N, st_110_7, st_110_8, st_110_9, st_110_12, st_110_12N, st_110_14, st_110_14N, st_110_16, st_110_16N, st_110_19, st_110_19N, st_110_21, st_110_21N, st_110_24, st_110_25, st_110_26, st_110_29, st_110_30, st_110_30N, st_110_32, st_110_35, st_110_38, st_110_38N, st_110_40, st_110_43, st_110_46, st_110_47, st_110_48, st_110_51, st_110_52, st_110_52N, st_110_54, st_110_57, st_110_57N, st_110_59, st_110_62, st_110_65, st_110_66, st_110_67, st_110_70, st_110_71, st_110_71N, st_110_73, st_110_76, st_110_76N, st_110_78, st_110_81, st_110_82, st_110_84, st_110_86, st_110_89, st_110_92, st_110_94, st_110_97, st_110_98, st_110_99, st_110_102, ini_110, fs_cl, fs_len, fs_rf, fs_M, fs_put, fs_cpy, ↓reduceIte, rv_ref, true_or, or_true, true_and, and_true, nI_ltI, ix_nI, nI_clamp, ps_i, ps_n, Option.bind_some, sm_0, sm_1, sm_2, sm_3, sm_4, sto_0, sto_1, sto_2, sto_3, sto_4, sto_5, sto_6, sto_7, sto_8, sto_9, sto_10, sto_11, sto_12, sto_13, sto_14, nlo_n, nlo_i, nlo_r, nlo_0, nlo_l, and_self, or_self, Nat.reduceEqDiff, Nat.reduceLT, Nat.reduceLeDiff, Nat.one_ne_zero, Nat.zero_ne_one, w0, f0, r7, m0, q0, a1, a2, e10, k1, k1', rk, sk, k5, k5', a1', c1', ne, kf])
          · (rw [j_C_eq]; simp (disch := omega) only [st_215_0, st_215_1, st_215_4, st_215_7, st_215_8, st_215_11, st_215_14, st_215_15, st_215_16, st_215_19, st_215_20, st_215_21, st_215_24, st_215_25, st_215_26, st_215_29, st_215_30, st_215_33, st_215_34, st_215_35, st_215_38, st_215_39, st_215_40, st_215_43, st_215_44, st_215_45, st_215_48, st_215_49, st_215_50, st_215_51, st_215_54, st_215_55, st_215_56, st_215_59, st_215_60, st_215_61, st_215_64, st_215_65, st_215_67, st_215_70, st_215_71, st_215_74, st_215_76, st_215_79, st_215_81, st_215_82, st_215_85, st_215_86, st_215_87, st_215_88, st_215_89, st_215_92, st_215_94, st_215_95, st_215_98, st_215_99, st_215_100, st_215_102, st_215_103, st_215_106, st_215_107, st_215_108, st_215_111, st_215_112, st_215_113, st_215_117, st_215_119, st_215_122, st_215_123, st_215_126, st_215_128, st_215_129, st_215_132, st_215_134, st_215_135, st_215_136, st_215_137, st_215_138, st_215_140, st_215_141, st_215_142, st_215_143, st_215_146, st_215_149, st_215_150, st_215_154, st_215_156, st_215_159, st_215_160, st_215_163, st_215_165, st_215_166, st_215_167, st_215_169, st_215_170, st_215_172, st_215_173, st_215_174, st_215_177, st_215_179, st_215_180, st_215_181, st_215_184, st_215_187, st_215_189, ini_215, fs_cl, fs_len, fs_rf, fs_M, fs_put, fs_cpy, ↓reduceIte, rv_ref, true_or, or_true, true_and, and_true, nI_ltI, ix_nI, nI_clamp, ps_i, ps_n, Option.bind_some, sm_0, sm_1, sm_2, sm_3, sm_4, sto_0, sto_1, sto_2, sto_3, sto_4, sto_5, sto_6, sto_7, sto_8, sto_9, sto_10, sto_11, sto_12, sto_13, sto_14, nlo_n, nlo_i, nlo_r, nlo_0, nlo_l, and_self, or_self, Nat.reduceEqDiff, Nat.reduceLT, Nat.reduceLeDiff, Nat.one_ne_zero, Nat.zero_ne_one, w0, f0, r7, m0, q0, a1, a2, e10, q8, b8a, b8b, k2, k2', hs4, ht4, u2, u2', nz, nz', ne, kf2])
    · refine go_f0 hi (k := 1) ?_
      intro e he
      obtain ⟨e, rfl⟩ : ∃ d, e = d + 1 := ⟨e - 1, by omega⟩
      have k1 := c121 (M := M) hh hs4 (e := e) (by omega)
      have k1' := c121n (M := M) hh hy (e := e) (by omega)
      have kf := c119 (M := M) hh (k := 1) (by omega) (e := e) (by omega)
      refine ⟨by (rw [j_C_eq]; simp (disch := omega) only [st_110_0, st_110_1, st_110_2, st_110_5, st_110_5N, st_110_7, st_110_8, st_110_9, st_110_12, st_110_12N, st_110_14, st_110_14N, st_110_16, st_110_16N, st_110_19, st_110_19N, st_110_21, st_110_21N, st_110_24, st_110_25, st_110_26, st_110_29, st_110_30, st_110_30N, st_110_32, st_110_35, st_110_38, st_110_38N, st_110_40, st_110_43, st_110_46, st_110_47, st_110_48, st_110_51, st_110_52, st_110_52N, st_110_54, st_110_57, st_110_57N, st_110_59, st_110_62, st_110_65, st_110_66, st_110_67, st_110_70, st_110_71, st_110_71N, st_110_73, st_110_76, st_110_76N, st_110_78, st_110_81, st_110_82, st_110_84, st_110_86, st_110_89, st_110_92, st_110_94, st_110_97, st_110_98, st_110_99, st_110_102, ini_110, fs_cl, fs_len, fs_rf, fs_M, fs_put, fs_cpy, ↓reduceIte, rv_ref, true_or, or_true, true_and, and_true, nI_ltI, ix_nI, nI_clamp, ps_i, ps_n, Option.bind_some, sm_0, sm_1, sm_2, sm_3, sm_4, sto_0, sto_1, sto_2, sto_3, sto_4, sto_5, sto_6, sto_7, sto_8, sto_9, sto_10, sto_11, sto_12, sto_13, sto_14, nlo_n, nlo_i, nlo_r, nlo_0, nlo_l, and_self, or_self, Nat.reduceEqDiff, Nat.reduceLT, Nat.reduceLeDiff, Nat.one_ne_zero, Nat.zero_ne_one, w0, f0, r7, m0, q0, a1, a2, e10, k1, k1', kf]), fun M' hR' => ?_⟩
      have k2 := r212 (σ := FS h M') hs4 (e := e) (by omega)
      have k2' := r212n (σ := FS h M') hy (e := e) (by omega)
      have kf := r142 (M := M') md (k := 1) (by omega) (e := e) (by omega)
      (rw [j_C_eq]; simp (disch := omega) only [st_215_0, st_215_1, st_215_4, st_215_7, st_215_8, st_215_11, st_215_14, st_215_15, st_215_16, st_215_19, st_215_20, st_215_21, st_215_24, st_215_25, st_215_26, st_215_29, st_215_30, st_215_33, st_215_34, st_215_35, st_215_38, st_215_39, st_215_40, st_215_43, st_215_44, st_215_45, st_215_48, st_215_49, st_215_50, st_215_51, st_215_54, st_215_55, st_215_56, st_215_59, st_215_60, st_215_61, st_215_64, st_215_65, st_215_67, st_215_70, st_215_71, st_215_74, st_215_76, st_215_79, st_215_81, st_215_82, st_215_85, st_215_86, st_215_87, st_215_88, st_215_89, st_215_92, st_215_94, st_215_95, st_215_98, st_215_99, st_215_100, st_215_102, st_215_103, st_215_106, st_215_107, st_215_108, st_215_111, st_215_112, st_215_113, st_215_117, st_215_119, st_215_122, st_215_123, st_215_126, st_215_128, st_215_129, st_215_132, st_215_134, st_215_135, st_215_136, st_215_137, st_215_138, st_215_140, st_215_141, st_215_142, st_215_143, st_215_146, st_215_149, st_215_150, st_215_154, st_215_156, st_215_159, st_215_160, st_215_163, st_215_165, st_215_166, st_215_167, st_215_169, st_215_170, st_215_172, st_215_173, st_215_174, st_215_177, st_215_179, st_215_180, st_215_181, st_215_184, st_215_187, st_215_189, ini_215, fs_cl, fs_len, fs_rf, fs_M, fs_put, fs_cpy, ↓reduceIte, rv_ref, true_or, or_true, true_and, and_true, nI_ltI, ix_nI, nI_clamp, ps_i, ps_n, Option.bind_some, sm_0, sm_1, sm_2, sm_3, sm_4, sto_0, sto_1, sto_2, sto_3, sto_4, sto_5, sto_6, sto_7, sto_8, sto_9, sto_10, sto_11, sto_12, sto_13, sto_14, nlo_n, nlo_i, nlo_r, nlo_0, nlo_l, and_self, or_self, Nat.reduceEqDiff, Nat.reduceLT, Nat.reduceLeDiff, Nat.one_ne_zero, Nat.zero_ne_one, w0, f0, r7, m0, q0, a1, a2, e10, k2, k2', kf])
  · refine go_f0 hi (k := 1) ?_
    intro e he
    obtain ⟨e, rfl⟩ : ∃ d, e = d + 1 := ⟨e - 1, by omega⟩
    have k1 := c121n (M := M) hh hx (e := e) (by omega)
    have kf := c119 (M := M) hh (k := 1) (by omega) (e := e) (by omega)
    refine ⟨?_, fun M' hR' => ?_⟩
    · by_cases hy : ∃ j, 0 ≤ j ∧ j ≤ 3 ∧ y = nI j
      · obtain ⟨t, _, ht3, rfl⟩ := hy
        have k1' := c121 (M := M) hh (by omega : t < 4) (e := e) (by omega)
        (rw [j_C_eq]; simp (disch := omega) only [st_110_0, st_110_1, st_110_2, st_110_5, st_110_5N, st_110_7, st_110_8, st_110_9, st_110_12, st_110_12N, st_110_14, st_110_14N, st_110_16, st_110_16N, st_110_19, st_110_19N, st_110_21, st_110_21N, st_110_24, st_110_25, st_110_26, st_110_29, st_110_30, st_110_30N, st_110_32, st_110_35, st_110_38, st_110_38N, st_110_40, st_110_43, st_110_46, st_110_47, st_110_48, st_110_51, st_110_52, st_110_52N, st_110_54, st_110_57, st_110_57N, st_110_59, st_110_62, st_110_65, st_110_66, st_110_67, st_110_70, st_110_71, st_110_71N, st_110_73, st_110_76, st_110_76N, st_110_78, st_110_81, st_110_82, st_110_84, st_110_86, st_110_89, st_110_92, st_110_94, st_110_97, st_110_98, st_110_99, st_110_102, ini_110, fs_cl, fs_len, fs_rf, fs_M, fs_put, fs_cpy, ↓reduceIte, rv_ref, true_or, or_true, true_and, and_true, nI_ltI, ix_nI, nI_clamp, ps_i, ps_n, Option.bind_some, sm_0, sm_1, sm_2, sm_3, sm_4, sto_0, sto_1, sto_2, sto_3, sto_4, sto_5, sto_6, sto_7, sto_8, sto_9, sto_10, sto_11, sto_12, sto_13, sto_14, nlo_n, nlo_i, nlo_r, nlo_0, nlo_l, and_self, or_self, Nat.reduceEqDiff, Nat.reduceLT, Nat.reduceLeDiff, Nat.one_ne_zero, Nat.zero_ne_one, w0, f0, r7, m0, q0, a1, a2, e10, k1, k1', kf])
      · have k1' := c121n (M := M) hh hy (e := e) (by omega)
        (rw [j_C_eq]; simp (disch := omega) only [st_110_0, st_110_1, st_110_2, st_110_5, st_110_5N, st_110_7, st_110_8, st_110_9, st_110_12, st_110_12N, st_110_14, st_110_14N, st_110_16, st_110_16N, st_110_19, st_110_19N, st_110_21, st_110_21N, st_110_24, st_110_25, st_110_26, st_110_29, st_110_30, st_110_30N, st_110_32, st_110_35, st_110_38, st_110_38N, st_110_40, st_110_43, st_110_46, st_110_47, st_110_48, st_110_51, st_110_52, st_110_52N, st_110_54, st_110_57, st_110_57N, st_110_59, st_110_62, st_110_65, st_110_66, st_110_67, st_110_70, st_110_71, st_110_71N, st_110_73, st_110_76, st_110_76N, st_110_78, st_110_81, st_110_82, st_110_84, st_110_86, st_110_89, st_110_92, st_110_94, st_110_97, st_110_98, st_110_99, st_110_102, ini_110, fs_cl, fs_len, fs_rf, fs_M, fs_put, fs_cpy, ↓reduceIte, rv_ref, true_or, or_true, true_and, and_true, nI_ltI, ix_nI, nI_clamp, ps_i, ps_n, Option.bind_some, sm_0, sm_1, sm_2, sm_3, sm_4, sto_0, sto_1, sto_2, sto_3, sto_4, sto_5, sto_6, sto_7, sto_8, sto_9, sto_10, sto_11, sto_12, sto_13, sto_14, nlo_n, nlo_i, nlo_r, nlo_0, nlo_l, and_self, or_self, Nat.reduceEqDiff, Nat.reduceLT, Nat.reduceLeDiff, Nat.one_ne_zero, Nat.zero_ne_one, w0, f0, r7, m0, q0, a1, a2, e10, k1, k1', kf])
    · have k2 := r212n (σ := FS h M') hx (e := e) (by omega)
      have kf := r142 (M := M') md (k := 1) (by omega) (e := e) (by omega)
      (rw [j_C_eq]; simp (disch := omega) only [st_215_0, st_215_1, st_215_4, st_215_7, st_215_8, st_215_11, st_215_14, st_215_15, st_215_16, st_215_19, st_215_20, st_215_21, st_215_24, st_215_25, st_215_26, st_215_29, st_215_30, st_215_33, st_215_34, st_215_35, st_215_38, st_215_39, st_215_40, st_215_43, st_215_44, st_215_45, st_215_48, st_215_49, st_215_50, st_215_51, st_215_54, st_215_55, st_215_56, st_215_59, st_215_60, st_215_61, st_215_64, st_215_65, st_215_67, st_215_70, st_215_71, st_215_74, st_215_76, st_215_79, st_215_81, st_215_82, st_215_85, st_215_86, st_215_87, st_215_88, st_215_89, st_215_92, st_215_94, st_215_95, st_215_98, st_215_99, st_215_100, st_215_102, st_215_103, st_215_106, st_215_107, st_215_108, st_215_111, st_215_112, st_215_113, st_215_117, st_215_119, st_215_122, st_215_123, st_215_126, st_215_128, st_215_129, st_215_132, st_215_134, st_215_135, st_215_136, st_215_137, st_215_138, st_215_140, st_215_141, st_215_142, st_215_143, st_215_146, st_215_149, st_215_150, st_215_154, st_215_156, st_215_159, st_215_160, st_215_163, st_215_165, st_215_166, st_215_167, st_215_169, st_215_170, st_215_172, st_215_173, st_215_174, st_215_177, st_215_179, st_215_180, st_215_181, st_215_184, st_215_187, st_215_189, ini_215, fs_cl, fs_len, fs_rf, fs_M, fs_put, fs_cpy, ↓reduceIte, rv_ref, true_or, or_true, true_and, and_true, nI_ltI, ix_nI, nI_clamp, ps_i, ps_n, Option.bind_some, sm_0, sm_1, sm_2, sm_3, sm_4, sto_0, sto_1, sto_2, sto_3, sto_4, sto_5, sto_6, sto_7, sto_8, sto_9, sto_10, sto_11, sto_12, sto_13, sto_14, nlo_n, nlo_i, nlo_r, nlo_0, nlo_l, and_self, or_self, Nat.reduceEqDiff, Nat.reduceLT, Nat.reduceLeDiff, Nat.one_ne_zero, Nat.zero_ne_one, w0, f0, r7, m0, q0, a1, a2, e10, k2, kf])
