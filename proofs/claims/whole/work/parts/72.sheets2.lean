/-! Both sides: sheet, put. -/
variable {h : j_Hd} {M M1 M2 M3 : Nat → Nat → Int32} {o b n s : Nat} {E E' : Nat → Nat} {z : Int32} {K0 K1 K : List Int32} {T : Nat → Nat} {W : Nat → Int32}
theorem r213l (hk : Md h o) (hs : s < 4) {x2 x3 : Int32} {e : Nat} : ∀ r k (M : Nat → Nat → Int32), r + k = 40 → ∃ M', j_X e 213 90 [some (.ref o), some (.int (nI s)), some (.int x2), some (.int x3), some (.int (nI k))] [] (FS h M) = some (some (.int (nI 1)), FS h M') ∧ (∀ j, k ≤ j → j < 40 → M' (o + 10) (40 * s + j) = nI 0) ∧ (∀ j, j < 40 * s + k ∨ 40 * s + 40 ≤ j → M' (o + 10) j = M (o + 10) j) ∧ ∀ x, x ≠ o + 10 → M' x = M x := by
  have m0 := hk.1
  have q := hk.2.2.2.2.2.2.2.2.2.2.1.1
  have b1 := hk.2.2.2.2.2.2.2.2.2.2.1.2.1
  have b2 := hk.2.2.2.2.2.2.2.2.2.2.1.2.2.1
  intro r
  induction r with
  | zero =>
    intro k M hr
    have e1 : ¬ k < 40 := by omega
    refine ⟨M, ?_, fun j h1 h2 => by omega, fun _ _ => rfl, fun _ _ => rfl⟩
    rw [st_213_90]
    simp (disch := omega) only [st_213_0, st_213_1, st_213_4, st_213_7, st_213_8, st_213_11, st_213_12, st_213_14, st_213_17, st_213_18, st_213_20, st_213_23, st_213_24, st_213_26, st_213_29, st_213_30, st_213_31, st_213_34, st_213_35, st_213_36, st_213_39, st_213_40, st_213_43, st_213_44, st_213_45, st_213_48, st_213_49, st_213_50, st_213_53, st_213_54, st_213_56, st_213_59, st_213_60, st_213_61, st_213_64, st_213_65, st_213_66, st_213_69, st_213_70, st_213_71, st_213_72, st_213_73, st_213_76, st_213_77, st_213_78, st_213_81, st_213_82, st_213_85, st_213_86, st_213_87, st_213_88, st_213_92, st_213_94, st_213_97, st_213_98, st_213_101, st_213_103, st_213_104, st_213_105, st_213_107, st_213_108, st_213_109, st_213_110, st_213_113, st_213_116, st_213_117, ini_213, fs_cl, fs_len, fs_rf, fs_M, fs_put, fs_cpy, ↓reduceIte, rv_ref, true_or, or_true, true_and, and_true, nI_ltI, ix_nI, nI_clamp, ps_i, ps_n, Option.bind_some, sm_0, sm_1, sm_2, sm_3, sm_4, sto_0, sto_1, sto_2, sto_3, sto_4, sto_5, sto_6, sto_7, sto_8, sto_9, sto_10, sto_11, sto_12, sto_13, sto_14, nlo_n, nlo_i, nlo_r, nlo_0, nlo_l, and_self, or_self, Nat.reduceEqDiff, Nat.reduceLT, Nat.reduceLeDiff, Nat.one_ne_zero, Nat.zero_ne_one, e1]
  | succ r ih =>
    intro k M hr
    have e1 : k < 40 := by omega
    have ix : 40 * s + k < 160 := by omega
    obtain ⟨M', p1, p2, p3, p4⟩ := ih (k + 1) (j_up M (o + 10) (40 * s + k) (nI 0)) (by omega)
    refine ⟨M', ?_, fun j h1 h2 => ?_, fun j hj => by rw [p3 j (by omega), up_k _ _ _ _ (by omega)], fun x hx => by rw [p4 x hx, up_r _ _ _ _ hx]⟩
    · rw [← p1, st_213_90]
      simp (disch := omega) only [st_213_0, st_213_1, st_213_4, st_213_7, st_213_8, st_213_11, st_213_12, st_213_14, st_213_17, st_213_18, st_213_20, st_213_23, st_213_24, st_213_26, st_213_29, st_213_30, st_213_31, st_213_34, st_213_35, st_213_36, st_213_39, st_213_40, st_213_43, st_213_44, st_213_45, st_213_48, st_213_49, st_213_50, st_213_53, st_213_54, st_213_56, st_213_59, st_213_60, st_213_61, st_213_64, st_213_65, st_213_66, st_213_69, st_213_70, st_213_71, st_213_72, st_213_73, st_213_76, st_213_77, st_213_78, st_213_81, st_213_82, st_213_85, st_213_86, st_213_87, st_213_88, st_213_92, st_213_94, st_213_97, st_213_98, st_213_101, st_213_103, st_213_104, st_213_105, st_213_107, st_213_108, st_213_109, st_213_110, st_213_113, st_213_116, st_213_117, ini_213, fs_cl, fs_len, fs_rf, fs_M, fs_put, fs_cpy, ↓reduceIte, rv_ref, true_or, or_true, true_and, and_true, nI_ltI, ix_nI, nI_clamp, ps_i, ps_n, Option.bind_some, sm_0, sm_1, sm_2, sm_3, sm_4, sto_0, sto_1, sto_2, sto_3, sto_4, sto_5, sto_6, sto_7, sto_8, sto_9, sto_10, sto_11, sto_12, sto_13, sto_14, nlo_n, nlo_i, nlo_r, nlo_0, nlo_l, and_self, or_self, Nat.reduceEqDiff, Nat.reduceLT, Nat.reduceLeDiff, Nat.one_ne_zero, Nat.zero_ne_one, m0, q, b1, b2, e1, ix, nI_mul, nI_add]
    · by_cases ej : j = k
      · rw [ej, p3 _ (by omega), up_s]
      · exact p2 j (by omega) h2
theorem sh_ne (t s : Nat) (h : t ≠ s) (k : Nat) (hk : k < 3) (l : Nat) (hl : l < 3) : 101 + 3 * t + k ≠ 101 + 3 * s + l := by omega
theorem g_sheet (hh : Hd h) (hi : IE M E z K0 K1 T W) (x y v : Int32) : Go h M 108 213 [.int x, .int y, .int v] := by
  have w0 := hh.1.1
  have f0 := hh.1.2.1
  have r7 := hh.1.2.2.2.2.2.2.2.1
  have mk := hh.2.1.1
  have th := hh.2.2.2.1.1
  have md : Md h 115 := hh.2.2.2.2.2.2.2.1
  have m0 := md.1
  have q0 := md.2.1.1
  have a1 := md.2.1.2.1
  have a2 := md.2.1.2.2.1
  have hw := hi.1.1
  have h6 := hw.1
  have h8 := hw.2.1
  have hm := hi.2.1.1
  have hs := hm.1
  have hR : RC M 115 E z K0 K1 := hi.2.2.1.1
  have sd := hi.2.2.2.1
  have e10 : ¬ nI 1 = nI 0 := by decide +kernel
  have hSP := hi.2.2.2.2.2.2.2.2.1
  have q8 := md.2.2.2.2.2.2.2.2.1.1
  have b8a := md.2.2.2.2.2.2.2.2.1.2.1
  have b8b := md.2.2.2.2.2.2.2.2.1.2.2.1
  have q9 := md.2.2.2.2.2.2.2.2.2.1.1
  have b9a := md.2.2.2.2.2.2.2.2.2.1.2.1
  have b9b := md.2.2.2.2.2.2.2.2.2.1.2.2.1
  by_cases hx : ∃ j, 0 ≤ j ∧ j ≤ 3 ∧ x = nI j
  · obtain ⟨s, _, hs3, rfl⟩ := hx
    have hs4 : s < 4 := by omega
    have s4 : s < 4 := hs4
    -- a sheet that is begun
    have go : ∀ (bs n : Nat) (w : Int32), (bs = 0 ∨ bs = 8 ∨ bs = 16 ∨ bs = 32) → n ≤ 40 → (bs = 0 → n = 0) → y = nI bs → (bs ≠ 0 → w = nI n) → ∀ e, 99 ≤ e → ∃ M1 M2, j_C e 56 [.ref (101 + 3 * s), .int (nI bs), .int (nI n)] (FS h M) = some (none, FS h M1) ∧ j_X e 213 65 [some (.ref 115), some (.int (nI s)), some (.int (nI bs)), some (.int w), none] [] (FS h M1) = some (some (.int (nI 1)), FS h M2) ∧ M1 1003 = M 1003 ∧ INv M2 := by
      intro bs n w hb hn h0 hy hw2 e he
      obtain ⟨M1, p1, p2, p3, p4, p5⟩ := c56 (M := M) hh hs4 hn (nI bs) (e := e) (by omega)
      obtain ⟨M2, r1, r2, r3, r4⟩ := r213l (x2 := nI bs) (x3 := w) md hs4 (e := e) 40 0 (j_up (j_up M1 123 s (nI bs)) 124 s (nI n)) (by omega)
      refine ⟨M1, M2, p1, ?_, p5 1003 (by omega) (by omega) (by omega), E, z, K0, K1, T, W, ?_⟩
      · rw [← r1]
        by_cases c : bs = 0
        · have n0 := h0 c
          subst c; subst n0
          simp (disch := omega) only [st_213_65, st_213_66, st_213_69, st_213_70, st_213_71, st_213_72, st_213_73, st_213_76, st_213_77, st_213_78, st_213_81, st_213_82, st_213_85, st_213_86, st_213_87, st_213_88, ini_213, fs_cl, fs_len, fs_rf, fs_M, fs_put, fs_cpy, ↓reduceIte, rv_ref, true_or, or_true, true_and, and_true, nI_ltI, ix_nI, nI_clamp, ps_i, ps_n, Option.bind_some, sm_0, sm_1, sm_2, sm_3, sm_4, sto_0, sto_1, sto_2, sto_3, sto_4, sto_5, sto_6, sto_7, sto_8, sto_9, sto_10, sto_11, sto_12, sto_13, sto_14, nlo_n, nlo_i, nlo_r, nlo_0, nlo_l, and_self, or_self, Nat.reduceEqDiff, Nat.reduceLT, Nat.reduceLeDiff, Nat.one_ne_zero, Nat.zero_ne_one, m0, q8, b8a, b8b, q9, b9a, b9b, s4]
        · have c' : ¬ nI bs = nI 0 := nI_ne c (by omega) (by omega)
          rw [hw2 c]
          simp (disch := omega) only [st_213_65, st_213_66, st_213_69, st_213_70, st_213_71, st_213_72, st_213_73, st_213_76, st_213_77, st_213_78, st_213_81, st_213_82, st_213_85, st_213_86, st_213_87, st_213_88, ini_213, fs_cl, fs_len, fs_rf, fs_M, fs_put, fs_cpy, ↓reduceIte, rv_ref, true_or, or_true, true_and, and_true, nI_ltI, ix_nI, nI_clamp, ps_i, ps_n, Option.bind_some, sm_0, sm_1, sm_2, sm_3, sm_4, sto_0, sto_1, sto_2, sto_3, sto_4, sto_5, sto_6, sto_7, sto_8, sto_9, sto_10, sto_11, sto_12, sto_13, sto_14, nlo_n, nlo_i, nlo_r, nlo_0, nlo_l, and_self, or_self, Nat.reduceEqDiff, Nat.reduceLT, Nat.reduceLeDiff, Nat.one_ne_zero, Nat.zero_ne_one, m0, q8, b8a, b8b, q9, b9a, b9b, s4, c']
      · have f1 : ∀ x, x ≠ 101 + 3 * s → x ≠ 102 + 3 * s → x ≠ 103 + 3 * s → x ≠ 123 → x ≠ 124 → x ≠ 125 → M2 x = M x := fun x h1 h2 h3 h4 h5 h6 => by
          rw [r4 x h6, up_r _ _ _ _ h5, up_r _ _ _ _ h4, p5 x h1 h2 h3]
        have g1 : ∀ x, x ≠ 123 → x ≠ 124 → x ≠ 125 → M2 x = M1 x := fun x h4 h5 h6 => by
          rw [r4 x h6, up_r _ _ _ _ h5, up_r _ _ _ _ h4]
        refine ie_sp hi (fun x h1 h2 => f1 x (by omega) (by omega) (by omega) (by omega) (by omega) (by omega)) (SP_up hSP hs4 (fun t ht hne => ?_) hb hn h0 ?_ ?_ ?_ ?_ ?_)
        · refine ⟨f1 _ (by omega) (by omega) (by omega) (by omega) (by omega) (by omega), f1 _ (by omega) (by omega) (by omega) (by omega) (by omega) (by omega), f1 _ (by omega) (by omega) (by omega) (by omega) (by omega) (by omega), ?_, ?_, fun i hi => ?_⟩
          · rw [r4 123 (by omega), up_o _ _ _ _ _ (by omega), up_k _ _ _ _ hne, p5 123 (by omega) (by omega) (by omega)]
          · rw [r4 124 (by omega), up_k _ _ _ _ hne, up_o _ _ _ _ _ (by omega), p5 124 (by omega) (by omega) (by omega)]
          · have := r3 (40 * t + i) (by omega)
            rw [show M2 125 = M2 (115 + 10) from rfl, this, up_o _ _ _ _ _ (by omega), up_o _ _ _ _ _ (by omega), p5 (115 + 10) (by omega) (by omega) (by omega)]
        · rw [g1 _ (by omega) (by omega) (by omega)]; exact p2
        · rw [r4 123 (by omega), up_o _ _ _ _ _ (by omega), up_s]
        · rw [g1 _ (by omega) (by omega) (by omega)]; exact p3
        · rw [r4 124 (by omega), up_s]
        · intro i hi
          have := r2 i (by omega) (by omega)
          rw [g1 _ (by omega) (by omega) (by omega), p4 i hi, show M2 125 (40 * s + i) = nI 0 from this]
          exact Sv_0 bs
    have i0 : nI 0 = nI 0 := rfl
    by_cases y0 : y = nI 0
    · intro e he
      obtain ⟨e, rfl⟩ : ∃ d, e = d + 1 := ⟨e - 1, by omega⟩
      obtain ⟨M1, M2, p1, p2, p3⟩ := go 0 0 v (.inl rfl) (by omega) (fun _ => rfl) y0 (fun hh => absurd rfl hh) e (by omega)
      have k1 := c121 (M := M) hh hs4 (e := e) (by omega)
      have k2 := r212 (σ := FS h M1) hs4 (e := e) (by omega)
      subst y0
      refine ⟨nI 1, M1, M2, ?_, ?_, p3⟩
      · have r4 := (hh.2.2.2.2.2.1.2.2 s hs4).2.1
        (rw [j_C_eq]; simp (disch := omega) only [st_108_0, st_108_1, st_108_2, st_108_5, st_108_5N, st_108_7, st_108_7N, st_108_9, st_108_9N, st_108_12, st_108_13, st_108_16, st_108_17, st_108_19, st_108_22, st_108_23, st_108_25, st_108_28, st_108_29, st_108_31, st_108_34, st_108_35, st_108_36, st_108_39, st_108_40, st_108_41, st_108_44, st_108_44N, st_108_46, st_108_47, st_108_48, st_108_51, st_108_52, st_108_53, st_108_54, st_108_57, st_108_58, st_108_59, st_108_62, st_108_63, st_108_64, st_108_66, st_108_69, st_108_70, st_108_71, st_108_74, st_108_75, st_108_75N, st_108_77, st_108_78, st_108_79, st_108_82, st_108_83, ini_108, fs_cl, fs_len, fs_rf, fs_M, fs_put, fs_cpy, ↓reduceIte, rv_ref, true_or, or_true, true_and, and_true, nI_ltI, ix_nI, nI_clamp, ps_i, ps_n, Option.bind_some, sm_0, sm_1, sm_2, sm_3, sm_4, sto_0, sto_1, sto_2, sto_3, sto_4, sto_5, sto_6, sto_7, sto_8, sto_9, sto_10, sto_11, sto_12, sto_13, sto_14, nlo_n, nlo_i, nlo_r, nlo_0, nlo_l, and_self, or_self, Nat.reduceEqDiff, Nat.reduceLT, Nat.reduceLeDiff, Nat.one_ne_zero, Nat.zero_ne_one, w0, f0, r7, m0, q0, a1, a2, e10, k1, r4, p1])
      · rw [j_C_eq]
        simp (disch := omega) only [st_213_0, st_213_1, st_213_4, st_213_7, st_213_8, st_213_11, st_213_12, st_213_14, st_213_17, st_213_18, st_213_20, st_213_23, st_213_24, st_213_26, st_213_29, st_213_30, st_213_31, st_213_34, st_213_35, st_213_36, st_213_39, st_213_40, st_213_43, st_213_44, st_213_45, st_213_48, st_213_49, st_213_50, st_213_53, st_213_54, st_213_56, st_213_59, st_213_60, st_213_61, st_213_64, ini_213, fs_cl, fs_len, fs_rf, fs_M, fs_put, fs_cpy, ↓reduceIte, rv_ref, true_or, or_true, true_and, and_true, nI_ltI, ix_nI, nI_clamp, ps_i, ps_n, Option.bind_some, sm_0, sm_1, sm_2, sm_3, sm_4, sto_0, sto_1, sto_2, sto_3, sto_4, sto_5, sto_6, sto_7, sto_8, sto_9, sto_10, sto_11, sto_12, sto_13, sto_14, nlo_n, nlo_i, nlo_r, nlo_0, nlo_l, and_self, or_self, Nat.reduceEqDiff, Nat.reduceLT, Nat.reduceLeDiff, Nat.one_ne_zero, Nat.zero_ne_one, k2, e10]
        exact p2
    · by_cases yb : y = nI 8 ∨ y = nI 16 ∨ y = nI 32
      · obtain ⟨bs, hb, hbe⟩ : ∃ bs, (bs = 8 ∨ bs = 16 ∨ bs = 32) ∧ y = nI bs := by
          rcases yb with q | q | q
          · exact ⟨8, .inl rfl, q⟩
          · exact ⟨16, .inr (.inl rfl), q⟩
          · exact ⟨32, .inr (.inr rfl), q⟩
        subst hbe
        have nb0 : ¬ nI bs = nI 0 := y0
        by_cases v0 : v < nI 0
        · refine go_f0 hi (k := 3) ?_
          intro e he
          obtain ⟨e, rfl⟩ : ∃ d, e = d + 1 := ⟨e - 1, by omega⟩
          have k1 := c121 (M := M) hh hs4 (e := e) (by omega)
          have kf := c119 (M := M) hh (k := 3) (by omega) (e := e) (by omega)
          refine ⟨?_, fun M' hR' => ?_⟩
          · rcases hb with q | q | q <;> subst q <;> (rw [j_C_eq]; simp (disch := omega) only [st_108_0, st_108_1, st_108_2, st_108_5, st_108_5N, st_108_7, st_108_7N, st_108_9, st_108_9N, st_108_12, st_108_13, st_108_16, st_108_17, st_108_19, st_108_22, st_108_23, st_108_25, st_108_28, st_108_29, st_108_31, st_108_34, st_108_35, st_108_36, st_108_39, st_108_40, st_108_41, st_108_44, st_108_44N, st_108_46, st_108_47, st_108_48, st_108_51, st_108_52, st_108_53, st_108_54, st_108_57, st_108_58, st_108_59, st_108_62, st_108_63, st_108_64, st_108_66, st_108_69, st_108_70, st_108_71, st_108_74, st_108_75, st_108_75N, st_108_77, st_108_78, st_108_79, st_108_82, st_108_83, ini_108, fs_cl, fs_len, fs_rf, fs_M, fs_put, fs_cpy, ↓reduceIte, rv_ref, true_or, or_true, true_and, and_true, nI_ltI, ix_nI, nI_clamp, ps_i, ps_n, Option.bind_some, sm_0, sm_1, sm_2, sm_3, sm_4, sto_0, sto_1, sto_2, sto_3, sto_4, sto_5, sto_6, sto_7, sto_8, sto_9, sto_10, sto_11, sto_12, sto_13, sto_14, nlo_n, nlo_i, nlo_r, nlo_0, nlo_l, and_self, or_self, Nat.reduceEqDiff, Nat.reduceLT, Nat.reduceLeDiff, Nat.one_ne_zero, Nat.zero_ne_one, w0, f0, r7, m0, q0, a1, a2, e10, k1, nI_eq, v0, kf])
          · have k2 := r212 (σ := FS h M') hs4 (e := e) (by omega)
            have kf := r142 (M := M') md (k := 3) (by omega) (e := e) (by omega)
            rcases hb with q | q | q <;> subst q <;> (rw [j_C_eq]; simp (disch := omega) only [st_213_0, st_213_1, st_213_4, st_213_7, st_213_8, st_213_11, st_213_12, st_213_14, st_213_17, st_213_18, st_213_20, st_213_23, st_213_24, st_213_26, st_213_29, st_213_30, st_213_31, st_213_34, st_213_35, st_213_36, st_213_39, st_213_40, st_213_43, st_213_44, st_213_45, st_213_48, st_213_49, st_213_50, st_213_53, st_213_54, st_213_56, st_213_59, st_213_60, st_213_61, st_213_64, st_213_65, st_213_66, st_213_69, st_213_70, st_213_71, st_213_72, st_213_73, st_213_76, st_213_77, st_213_78, st_213_81, st_213_82, st_213_85, st_213_86, st_213_87, st_213_88, st_213_92, st_213_94, st_213_97, st_213_98, st_213_101, st_213_103, st_213_104, st_213_105, st_213_107, st_213_108, st_213_109, st_213_110, st_213_113, st_213_116, st_213_117, ini_213, fs_cl, fs_len, fs_rf, fs_M, fs_put, fs_cpy, ↓reduceIte, rv_ref, true_or, or_true, true_and, and_true, nI_ltI, ix_nI, nI_clamp, ps_i, ps_n, Option.bind_some, sm_0, sm_1, sm_2, sm_3, sm_4, sto_0, sto_1, sto_2, sto_3, sto_4, sto_5, sto_6, sto_7, sto_8, sto_9, sto_10, sto_11, sto_12, sto_13, sto_14, nlo_n, nlo_i, nlo_r, nlo_0, nlo_l, and_self, or_self, Nat.reduceEqDiff, Nat.reduceLT, Nat.reduceLeDiff, Nat.one_ne_zero, Nat.zero_ne_one, w0, f0, r7, m0, q0, a1, a2, e10, k2, nI_eq, v0, kf])
        · by_cases v4 : nI 40 < v
          · refine go_f0 hi (k := 1) ?_
            intro e he
            obtain ⟨e, rfl⟩ : ∃ d, e = d + 1 := ⟨e - 1, by omega⟩
            have k1 := c121 (M := M) hh hs4 (e := e) (by omega)
            have kf := c119 (M := M) hh (k := 1) (by omega) (e := e) (by omega)
            refine ⟨?_, fun M' hR' => ?_⟩
            · rcases hb with q | q | q <;> subst q <;> (rw [j_C_eq]; simp (disch := omega) only [st_108_0, st_108_1, st_108_2, st_108_5, st_108_5N, st_108_7, st_108_7N, st_108_9, st_108_9N, st_108_12, st_108_13, st_108_16, st_108_17, st_108_19, st_108_22, st_108_23, st_108_25, st_108_28, st_108_29, st_108_31, st_108_34, st_108_35, st_108_36, st_108_39, st_108_40, st_108_41, st_108_44, st_108_44N, st_108_46, st_108_47, st_108_48, st_108_51, st_108_52, st_108_53, st_108_54, st_108_57, st_108_58, st_108_59, st_108_62, st_108_63, st_108_64, st_108_66, st_108_69, st_108_70, st_108_71, st_108_74, st_108_75, st_108_75N, st_108_77, st_108_78, st_108_79, st_108_82, st_108_83, ini_108, fs_cl, fs_len, fs_rf, fs_M, fs_put, fs_cpy, ↓reduceIte, rv_ref, true_or, or_true, true_and, and_true, nI_ltI, ix_nI, nI_clamp, ps_i, ps_n, Option.bind_some, sm_0, sm_1, sm_2, sm_3, sm_4, sto_0, sto_1, sto_2, sto_3, sto_4, sto_5, sto_6, sto_7, sto_8, sto_9, sto_10, sto_11, sto_12, sto_13, sto_14, nlo_n, nlo_i, nlo_r, nlo_0, nlo_l, and_self, or_self, Nat.reduceEqDiff, Nat.reduceLT, Nat.reduceLeDiff, Nat.one_ne_zero, Nat.zero_ne_one, w0, f0, r7, m0, q0, a1, a2, e10, k1, nI_eq, v0, v4, kf])
            · have k2 := r212 (σ := FS h M') hs4 (e := e) (by omega)
              have kf := r142 (M := M') md (k := 1) (by omega) (e := e) (by omega)
              rcases hb with q | q | q <;> subst q <;> (rw [j_C_eq]; simp (disch := omega) only [st_213_0, st_213_1, st_213_4, st_213_7, st_213_8, st_213_11, st_213_12, st_213_14, st_213_17, st_213_18, st_213_20, st_213_23, st_213_24, st_213_26, st_213_29, st_213_30, st_213_31, st_213_34, st_213_35, st_213_36, st_213_39, st_213_40, st_213_43, st_213_44, st_213_45, st_213_48, st_213_49, st_213_50, st_213_53, st_213_54, st_213_56, st_213_59, st_213_60, st_213_61, st_213_64, st_213_65, st_213_66, st_213_69, st_213_70, st_213_71, st_213_72, st_213_73, st_213_76, st_213_77, st_213_78, st_213_81, st_213_82, st_213_85, st_213_86, st_213_87, st_213_88, st_213_92, st_213_94, st_213_97, st_213_98, st_213_101, st_213_103, st_213_104, st_213_105, st_213_107, st_213_108, st_213_109, st_213_110, st_213_113, st_213_116, st_213_117, ini_213, fs_cl, fs_len, fs_rf, fs_M, fs_put, fs_cpy, ↓reduceIte, rv_ref, true_or, or_true, true_and, and_true, nI_ltI, ix_nI, nI_clamp, ps_i, ps_n, Option.bind_some, sm_0, sm_1, sm_2, sm_3, sm_4, sto_0, sto_1, sto_2, sto_3, sto_4, sto_5, sto_6, sto_7, sto_8, sto_9, sto_10, sto_11, sto_12, sto_13, sto_14, nlo_n, nlo_i, nlo_r, nlo_0, nlo_l, and_self, or_self, Nat.reduceEqDiff, Nat.reduceLT, Nat.reduceLeDiff, Nat.one_ne_zero, Nat.zero_ne_one, w0, f0, r7, m0, q0, a1, a2, e10, k2, nI_eq, v0, v4, kf])
          · obtain ⟨n, hn, rfl⟩ : ∃ n, n ≤ 40 ∧ v = nI n := by
              rw [lt0] at v0
              rw [nlt (by omega)] at v4
              exact ⟨v.toInt.toNat, by omega, by rw [nI_z, Int.toNat_of_nonneg (by omega)]; exact zI_of v⟩
            have v4' : ¬ 40 < n := by omega
            have v0' : ¬ nI n < nI 0 := v0
            intro e he
            obtain ⟨e, rfl⟩ : ∃ d, e = d + 1 := ⟨e - 1, by omega⟩
            obtain ⟨M1, M2, p1, p2, p3⟩ := go bs n (nI n) (.inr hb) hn (fun hh => by omega) rfl (fun _ => rfl) e (by omega)
            have k1 := c121 (M := M) hh hs4 (e := e) (by omega)
            have k2 := r212 (σ := FS h M1) hs4 (e := e) (by omega)
            have r4 := (hh.2.2.2.2.2.1.2.2 s hs4).2.1
            refine ⟨nI 1, M1, M2, ?_, ?_, p3⟩
            · rcases hb with q | q | q <;> subst q <;> (rw [j_C_eq]; simp (disch := omega) only [st_108_0, st_108_1, st_108_2, st_108_5, st_108_5N, st_108_7, st_108_7N, st_108_9, st_108_9N, st_108_12, st_108_13, st_108_16, st_108_17, st_108_19, st_108_22, st_108_23, st_108_25, st_108_28, st_108_29, st_108_31, st_108_34, st_108_35, st_108_36, st_108_39, st_108_40, st_108_41, st_108_44, st_108_44N, st_108_46, st_108_47, st_108_48, st_108_51, st_108_52, st_108_53, st_108_54, st_108_57, st_108_58, st_108_59, st_108_62, st_108_63, st_108_64, st_108_66, st_108_69, st_108_70, st_108_71, st_108_74, st_108_75, st_108_75N, st_108_77, st_108_78, st_108_79, st_108_82, st_108_83, ini_108, fs_cl, fs_len, fs_rf, fs_M, fs_put, fs_cpy, ↓reduceIte, rv_ref, true_or, or_true, true_and, and_true, nI_ltI, ix_nI, nI_clamp, ps_i, ps_n, Option.bind_some, sm_0, sm_1, sm_2, sm_3, sm_4, sto_0, sto_1, sto_2, sto_3, sto_4, sto_5, sto_6, sto_7, sto_8, sto_9, sto_10, sto_11, sto_12, sto_13, sto_14, nlo_n, nlo_i, nlo_r, nlo_0, nlo_l, and_self, or_self, Nat.reduceEqDiff, Nat.reduceLT, Nat.reduceLeDiff, Nat.one_ne_zero, Nat.zero_ne_one, w0, f0, r7, m0, q0, a1, a2, e10, k1, r4, nI_eq, v0', v4', p1])
            · rcases hb with q | q | q <;> subst q <;> (rw [j_C_eq]; simp (disch := omega) only [st_213_0, st_213_1, st_213_4, st_213_7, st_213_8, st_213_11, st_213_12, st_213_14, st_213_17, st_213_18, st_213_20, st_213_23, st_213_24, st_213_26, st_213_29, st_213_30, st_213_31, st_213_34, st_213_35, st_213_36, st_213_39, st_213_40, st_213_43, st_213_44, st_213_45, st_213_48, st_213_49, st_213_50, st_213_53, st_213_54, st_213_56, st_213_59, st_213_60, st_213_61, st_213_64, ini_213, fs_cl, fs_len, fs_rf, fs_M, fs_put, fs_cpy, ↓reduceIte, rv_ref, true_or, or_true, true_and, and_true, nI_ltI, ix_nI, nI_clamp, ps_i, ps_n, Option.bind_some, sm_0, sm_1, sm_2, sm_3, sm_4, sto_0, sto_1, sto_2, sto_3, sto_4, sto_5, sto_6, sto_7, sto_8, sto_9, sto_10, sto_11, sto_12, sto_13, sto_14, nlo_n, nlo_i, nlo_r, nlo_0, nlo_l, and_self, or_self, Nat.reduceEqDiff, Nat.reduceLT, Nat.reduceLeDiff, Nat.one_ne_zero, Nat.zero_ne_one, k2, e10, nI_eq, v0', v4']; exact p2)
      · have y8 : ¬ y = nI 8 := fun hh => yb (.inl hh)
        have y16 : ¬ y = nI 16 := fun hh => yb (.inr (.inl hh))
        have y32 : ¬ y = nI 32 := fun hh => yb (.inr (.inr hh))
        refine go_f0 hi (k := 1) ?_
        intro e he
        obtain ⟨e, rfl⟩ : ∃ d, e = d + 1 := ⟨e - 1, by omega⟩
        have k1 := c121 (M := M) hh hs4 (e := e) (by omega)
        have kf := c119 (M := M) hh (k := 1) (by omega) (e := e) (by omega)
        refine ⟨by (rw [j_C_eq]; simp (disch := omega) only [st_108_0, st_108_1, st_108_2, st_108_5, st_108_5N, st_108_7, st_108_7N, st_108_9, st_108_9N, st_108_12, st_108_13, st_108_16, st_108_17, st_108_19, st_108_22, st_108_23, st_108_25, st_108_28, st_108_29, st_108_31, st_108_34, st_108_35, st_108_36, st_108_39, st_108_40, st_108_41, st_108_44, st_108_44N, st_108_46, st_108_47, st_108_48, st_108_51, st_108_52, st_108_53, st_108_54, st_108_57, st_108_58, st_108_59, st_108_62, st_108_63, st_108_64, st_108_66, st_108_69, st_108_70, st_108_71, st_108_74, st_108_75, st_108_75N, st_108_77, st_108_78, st_108_79, st_108_82, st_108_83, ini_108, fs_cl, fs_len, fs_rf, fs_M, fs_put, fs_cpy, ↓reduceIte, rv_ref, true_or, or_true, true_and, and_true, nI_ltI, ix_nI, nI_clamp, ps_i, ps_n, Option.bind_some, sm_0, sm_1, sm_2, sm_3, sm_4, sto_0, sto_1, sto_2, sto_3, sto_4, sto_5, sto_6, sto_7, sto_8, sto_9, sto_10, sto_11, sto_12, sto_13, sto_14, nlo_n, nlo_i, nlo_r, nlo_0, nlo_l, and_self, or_self, Nat.reduceEqDiff, Nat.reduceLT, Nat.reduceLeDiff, Nat.one_ne_zero, Nat.zero_ne_one, w0, f0, r7, m0, q0, a1, a2, e10, k1, y0, y8, y16, y32, kf]), fun M' hR' => ?_⟩
        have k2 := r212 (σ := FS h M') hs4 (e := e) (by omega)
        have kf := r142 (M := M') md (k := 1) (by omega) (e := e) (by omega)
        (rw [j_C_eq]; simp (disch := omega) only [st_213_0, st_213_1, st_213_4, st_213_7, st_213_8, st_213_11, st_213_12, st_213_14, st_213_17, st_213_18, st_213_20, st_213_23, st_213_24, st_213_26, st_213_29, st_213_30, st_213_31, st_213_34, st_213_35, st_213_36, st_213_39, st_213_40, st_213_43, st_213_44, st_213_45, st_213_48, st_213_49, st_213_50, st_213_53, st_213_54, st_213_56, st_213_59, st_213_60, st_213_61, st_213_64, st_213_65, st_213_66, st_213_69, st_213_70, st_213_71, st_213_72, st_213_73, st_213_76, st_213_77, st_213_78, st_213_81, st_213_82, st_213_85, st_213_86, st_213_87, st_213_88, st_213_92, st_213_94, st_213_97, st_213_98, st_213_101, st_213_103, st_213_104, st_213_105, st_213_107, st_213_108, st_213_109, st_213_110, st_213_113, st_213_116, st_213_117, ini_213, fs_cl, fs_len, fs_rf, fs_M, fs_put, fs_cpy, ↓reduceIte, rv_ref, true_or, or_true, true_and, and_true, nI_ltI, ix_nI, nI_clamp, ps_i, ps_n, Option.bind_some, sm_0, sm_1, sm_2, sm_3, sm_4, sto_0, sto_1, sto_2, sto_3, sto_4, sto_5, sto_6, sto_7, sto_8, sto_9, sto_10, sto_11, sto_12, sto_13, sto_14, nlo_n, nlo_i, nlo_r, nlo_0, nlo_l, and_self, or_self, Nat.reduceEqDiff, Nat.reduceLT, Nat.reduceLeDiff, Nat.one_ne_zero, Nat.zero_ne_one, w0, f0, r7, m0, q0, a1, a2, e10, k2, y0, y8, y16, y32, kf])
  · refine go_f0 hi (k := 1) ?_
    intro e he
    obtain ⟨e, rfl⟩ : ∃ d, e = d + 1 := ⟨e - 1, by omega⟩
    have k1 := c121n (M := M) hh hx (e := e) (by omega)
    have kf := c119 (M := M) hh (k := 1) (by omega) (e := e) (by omega)
    refine ⟨by (rw [j_C_eq]; simp (disch := omega) only [st_108_0, st_108_1, st_108_2, st_108_5, st_108_5N, st_108_7, st_108_7N, st_108_9, st_108_9N, st_108_12, st_108_13, st_108_16, st_108_17, st_108_19, st_108_22, st_108_23, st_108_25, st_108_28, st_108_29, st_108_31, st_108_34, st_108_35, st_108_36, st_108_39, st_108_40, st_108_41, st_108_44, st_108_44N, st_108_46, st_108_47, st_108_48, st_108_51, st_108_52, st_108_53, st_108_54, st_108_57, st_108_58, st_108_59, st_108_62, st_108_63, st_108_64, st_108_66, st_108_69, st_108_70, st_108_71, st_108_74, st_108_75, st_108_75N, st_108_77, st_108_78, st_108_79, st_108_82, st_108_83, ini_108, fs_cl, fs_len, fs_rf, fs_M, fs_put, fs_cpy, ↓reduceIte, rv_ref, true_or, or_true, true_and, and_true, nI_ltI, ix_nI, nI_clamp, ps_i, ps_n, Option.bind_some, sm_0, sm_1, sm_2, sm_3, sm_4, sto_0, sto_1, sto_2, sto_3, sto_4, sto_5, sto_6, sto_7, sto_8, sto_9, sto_10, sto_11, sto_12, sto_13, sto_14, nlo_n, nlo_i, nlo_r, nlo_0, nlo_l, and_self, or_self, Nat.reduceEqDiff, Nat.reduceLT, Nat.reduceLeDiff, Nat.one_ne_zero, Nat.zero_ne_one, w0, f0, r7, m0, q0, a1, a2, e10, k1, kf]), fun M' hR' => ?_⟩
    have k2 := r212n (σ := FS h M') hx (e := e) (by omega)
    have kf := r142 (M := M') md (k := 1) (by omega) (e := e) (by omega)
    (rw [j_C_eq]; simp (disch := omega) only [st_213_0, st_213_1, st_213_4, st_213_7, st_213_8, st_213_11, st_213_12, st_213_14, st_213_17, st_213_18, st_213_20, st_213_23, st_213_24, st_213_26, st_213_29, st_213_30, st_213_31, st_213_34, st_213_35, st_213_36, st_213_39, st_213_40, st_213_43, st_213_44, st_213_45, st_213_48, st_213_49, st_213_50, st_213_53, st_213_54, st_213_56, st_213_59, st_213_60, st_213_61, st_213_64, st_213_65, st_213_66, st_213_69, st_213_70, st_213_71, st_213_72, st_213_73, st_213_76, st_213_77, st_213_78, st_213_81, st_213_82, st_213_85, st_213_86, st_213_87, st_213_88, st_213_92, st_213_94, st_213_97, st_213_98, st_213_101, st_213_103, st_213_104, st_213_105, st_213_107, st_213_108, st_213_109, st_213_110, st_213_113, st_213_116, st_213_117, ini_213, fs_cl, fs_len, fs_rf, fs_M, fs_put, fs_cpy, ↓reduceIte, rv_ref, true_or, or_true, true_and, and_true, nI_ltI, ix_nI, nI_clamp, ps_i, ps_n, Option.bind_some, sm_0, sm_1, sm_2, sm_3, sm_4, sto_0, sto_1, sto_2, sto_3, sto_4, sto_5, sto_6, sto_7, sto_8, sto_9, sto_10, sto_11, sto_12, sto_13, sto_14, nlo_n, nlo_i, nlo_r, nlo_0, nlo_l, and_self, or_self, Nat.reduceEqDiff, Nat.reduceLT, Nat.reduceLeDiff, Nat.one_ne_zero, Nat.zero_ne_one, w0, f0, r7, m0, q0, a1, a2, e10, k2, kf])
theorem c57 (hh : Hd h) (hs : s < 4) {bs i : Nat} (hb : M (101 + 3 * s) 1 = nI bs) (hb2 : bs = 8 ∨ bs = 16 ∨ bs = 32) (hi : i < 40) (v : Int32) {e : Nat} (he : 2 ≤ e) : ∃ w, j_C e 57 [.ref (101 + 3 * s), .int (nI i), .int v] (FS h M) = some (none, FS h (j_up M (103 + 3 * s) i w)) ∧ Sv bs w (if bs = 8 then v.toInt8.toInt32 else if bs = 16 then v.toInt16.toInt32 else v) := by
  obtain ⟨e, rfl⟩ : ∃ d, e = d + 1 := ⟨e - 1, by omega⟩
  obtain ⟨_, r, f0, nb⟩ := hh.2.2.2.2.2.1.2.2 s hs
  have g := fun w => n34e (M := M) nb hi w (e := e) (by omega)
  rcases hb2 with q | q | q
  · subst q
    have em : nI 1 <<< (nI 8 &&& 31) - nI 1 = nI 255 := by decide +kernel
    refine ⟨v &&& nI 255, ?_, fun hh => by omega, fun _ => ⟨v, rfl, by rw [if_pos rfl]⟩, fun hh => by omega⟩
    rw [j_C_eq]
    simp (disch := omega) only [st_57_0, st_57_1, st_57_4, st_57_5, st_57_6, st_57_9, st_57_11, st_57_14, st_57_15, st_57_18, st_57_19, st_57_20, st_57_21, st_57_24, st_57_25, st_57_26, st_57_27, st_57_28, st_57_31, ini_57, fs_cl, fs_len, fs_rf, fs_M, fs_put, fs_cpy, ↓reduceIte, rv_ref, true_or, or_true, true_and, and_true, nI_ltI, ix_nI, nI_clamp, ps_i, ps_n, Option.bind_some, sm_0, sm_1, sm_2, sm_3, sm_4, sto_0, sto_1, sto_2, sto_3, sto_4, sto_5, sto_6, sto_7, sto_8, sto_9, sto_10, sto_11, sto_12, sto_13, sto_14, nlo_n, nlo_i, nlo_r, nlo_0, nlo_l, and_self, or_self, Nat.reduceEqDiff, Nat.reduceLT, Nat.reduceLeDiff, Nat.one_ne_zero, Nat.zero_ne_one, r, f0, hb, nb.1, nI_eq, em, g]
  · subst q
    have em : nI 1 <<< (nI 16 &&& 31) - nI 1 = nI 65535 := by decide +kernel
    refine ⟨v &&& nI 65535, ?_, fun hh => by omega, fun hh => by omega, fun _ => ⟨v, rfl, by rw [if_neg (by omega), if_pos rfl]⟩⟩
    rw [j_C_eq]
    simp (disch := omega) only [st_57_0, st_57_1, st_57_4, st_57_5, st_57_6, st_57_9, st_57_11, st_57_14, st_57_15, st_57_18, st_57_19, st_57_20, st_57_21, st_57_24, st_57_25, st_57_26, st_57_27, st_57_28, st_57_31, ini_57, fs_cl, fs_len, fs_rf, fs_M, fs_put, fs_cpy, ↓reduceIte, rv_ref, true_or, or_true, true_and, and_true, nI_ltI, ix_nI, nI_clamp, ps_i, ps_n, Option.bind_some, sm_0, sm_1, sm_2, sm_3, sm_4, sto_0, sto_1, sto_2, sto_3, sto_4, sto_5, sto_6, sto_7, sto_8, sto_9, sto_10, sto_11, sto_12, sto_13, sto_14, nlo_n, nlo_i, nlo_r, nlo_0, nlo_l, and_self, or_self, Nat.reduceEqDiff, Nat.reduceLT, Nat.reduceLeDiff, Nat.one_ne_zero, Nat.zero_ne_one, r, f0, hb, nb.1, nI_eq, em, g]
  · subst q
    refine ⟨v, ?_, fun _ => by rw [if_neg (by omega), if_neg (by omega)], fun hh => by omega, fun hh => by omega⟩
    rw [j_C_eq]
    simp (disch := omega) only [st_57_0, st_57_1, st_57_4, st_57_5, st_57_6, st_57_9, st_57_11, st_57_14, st_57_15, st_57_18, st_57_19, st_57_20, st_57_21, st_57_24, st_57_25, st_57_26, st_57_27, st_57_28, st_57_31, ini_57, fs_cl, fs_len, fs_rf, fs_M, fs_put, fs_cpy, ↓reduceIte, rv_ref, true_or, or_true, true_and, and_true, nI_ltI, ix_nI, nI_clamp, ps_i, ps_n, Option.bind_some, sm_0, sm_1, sm_2, sm_3, sm_4, sto_0, sto_1, sto_2, sto_3, sto_4, sto_5, sto_6, sto_7, sto_8, sto_9, sto_10, sto_11, sto_12, sto_13, sto_14, nlo_n, nlo_i, nlo_r, nlo_0, nlo_l, and_self, or_self, Nat.reduceEqDiff, Nat.reduceLT, Nat.reduceLeDiff, Nat.one_ne_zero, Nat.zero_ne_one, r, f0, hb, nb.1, g]
theorem g_put (hh : Hd h) (hi : IE M E z K0 K1 T W) (x y v : Int32) : Go h M 109 214 [.int x, .int y, .int v] := by
  have w0 := hh.1.1
  have f0 := hh.1.2.1
  have r7 := hh.1.2.2.2.2.2.2.2.1
  have mk := hh.2.1.1
  have th := hh.2.2.2.1.1
  have md : Md h 115 := hh.2.2.2.2.2.2.2.1
  have m0 := md.1
  have q0 := md.2.1.1
  have a1 := md.2.1.2.1
  have a2 := md.2.1.2.2.1
  have hw := hi.1.1
  have h6 := hw.1
  have h8 := hw.2.1
  have hm := hi.2.1.1
  have hs := hm.1
  have hR : RC M 115 E z K0 K1 := hi.2.2.1.1
  have sd := hi.2.2.2.1
  have e10 : ¬ nI 1 = nI 0 := by decide +kernel
  have hSP := hi.2.2.2.2.2.2.2.2.1
  have q8 := md.2.2.2.2.2.2.2.2.1.1
  have b8a := md.2.2.2.2.2.2.2.2.1.2.1
  have b8b := md.2.2.2.2.2.2.2.2.1.2.2.1
  have q9 := md.2.2.2.2.2.2.2.2.2.1.1
  have b9a := md.2.2.2.2.2.2.2.2.2.1.2.1
  have b9b := md.2.2.2.2.2.2.2.2.2.1.2.2.1
  have qa := md.2.2.2.2.2.2.2.2.2.2.1.1
  have baa := md.2.2.2.2.2.2.2.2.2.2.1.2.1
  have bab := md.2.2.2.2.2.2.2.2.2.2.1.2.2.1
  by_cases hx : ∃ j, 0 ≤ j ∧ j ≤ 3 ∧ x = nI j
  · obtain ⟨s, _, hs3, rfl⟩ := hx
    have hs4 : s < 4 := by omega
    obtain ⟨bs, n, hb, hn, h0, t1, t2, t3, t4, t5⟩ := hSP s hs4
    obtain ⟨_, rk, rf0, nb⟩ := hh.2.2.2.2.2.1.2.2 s hs4
    have bl : bs < 100 := by omega
    have t2' : ∀ k, fc k M 123 s = nI bs := fun k => by unfold fc; rw [up_o _ _ _ _ _ (by omega)]; exact t2
    have t4' : ∀ k, fc k M 124 s = nI n := fun k => by unfold fc; rw [up_o _ _ _ _ _ (by omega)]; exact t4
    by_cases c0 : bs = 0
    · refine go_f hi (k := 2) ?_
      intro e he
      obtain ⟨e, rfl⟩ : ∃ d, e = d + 1 := ⟨e - 1, by omega⟩
      have k1 := c121 (M := M) hh hs4 (e := e) (by omega)
      have k5 := c55 (M := M) hh hs4 t1 bl (e := e) (by omega)
      rw [if_pos c0] at k5
      have kf := c119 (M := M) hh (k := 2) (by omega) (e := e) (by omega)
      have k2 := r212 (σ := FS h (fc 2 M)) hs4 (e := e) (by omega)
      have kf2 := r142 (M := fc 2 M) md (k := 2) (by omega) (e := e) (by omega)
      have tt := t2' 2
      rw [c0] at tt
      refine ⟨M, fc 2 M, ?_, cq_r, sd, ?_, rg_r, RC_fc hR⟩
      · (rw [j_C_eq]; simp (disch := omega) only [st_109_0, st_109_1, st_109_2, st_109_5, st_109_5N, st_109_7, st_109_7N, st_109_9, st_109_9N, st_109_12, st_109_13, st_109_14, st_109_17, st_109_18, st_109_18N, st_109_20, st_109_23, st_109_26, st_109_27, st_109_28, st_109_31, st_109_32, st_109_33, st_109_34, st_109_34N, st_109_36, st_109_39, st_109_42, st_109_43, st_109_44, st_109_47, st_109_50, st_109_51, st_109_52, st_109_55, st_109_56, st_109_56N, st_109_58, st_109_59, st_109_60, st_109_63, st_109_64, ini_109, fs_cl, fs_len, fs_rf, fs_M, fs_put, fs_cpy, ↓reduceIte, rv_ref, true_or, or_true, true_and, and_true, nI_ltI, ix_nI, nI_clamp, ps_i, ps_n, Option.bind_some, sm_0, sm_1, sm_2, sm_3, sm_4, sto_0, sto_1, sto_2, sto_3, sto_4, sto_5, sto_6, sto_7, sto_8, sto_9, sto_10, sto_11, sto_12, sto_13, sto_14, nlo_n, nlo_i, nlo_r, nlo_0, nlo_l, and_self, or_self, Nat.reduceEqDiff, Nat.reduceLT, Nat.reduceLeDiff, Nat.one_ne_zero, Nat.zero_ne_one, w0, f0, r7, m0, q0, a1, a2, e10, k1, rk, k5, kf])
      · (rw [j_C_eq]; simp (disch := omega) only [st_214_0, st_214_1, st_214_4, st_214_7, st_214_8, st_214_9, st_214_12, st_214_13, st_214_14, st_214_17, st_214_18, st_214_19, st_214_22, st_214_23, st_214_24, st_214_27, st_214_28, st_214_29, st_214_30, st_214_31, st_214_32, st_214_35, st_214_36, st_214_37, st_214_38, st_214_39, st_214_40, st_214_43, st_214_46, st_214_47, st_214_48, st_214_51, st_214_52, st_214_53, st_214_56, st_214_58, st_214_59, st_214_60, st_214_61, st_214_62, st_214_63, st_214_66, st_214_67, st_214_68, st_214_70, st_214_73, st_214_74, st_214_75, st_214_78, st_214_79, st_214_82, st_214_83, st_214_84, st_214_86, st_214_89, st_214_90, st_214_91, st_214_94, st_214_95, st_214_96, st_214_97, ini_214, fs_cl, fs_len, fs_rf, fs_M, fs_put, fs_cpy, ↓reduceIte, rv_ref, true_or, or_true, true_and, and_true, nI_ltI, ix_nI, nI_clamp, ps_i, ps_n, Option.bind_some, sm_0, sm_1, sm_2, sm_3, sm_4, sto_0, sto_1, sto_2, sto_3, sto_4, sto_5, sto_6, sto_7, sto_8, sto_9, sto_10, sto_11, sto_12, sto_13, sto_14, nlo_n, nlo_i, nlo_r, nlo_0, nlo_l, and_self, or_self, Nat.reduceEqDiff, Nat.reduceLT, Nat.reduceLeDiff, Nat.one_ne_zero, Nat.zero_ne_one, w0, f0, r7, m0, q0, a1, a2, e10, q8, b8a, b8b, k2, hs4, tt, kf2])
    · have hb' : bs = 8 ∨ bs = 16 ∨ bs = 32 := by omega
      have nb0 : ¬ nI bs = nI 0 := nI_ne c0 (by omega) (by omega)
      by_cases hy : ∃ j, j < n ∧ y = nI j
      · obtain ⟨i, hin, rfl⟩ := hy
        obtain ⟨wa, wb⟩ := (wi_sz (x := nI i) (n := n) (by omega)).1 i hin rfl
        intro e he
        obtain ⟨e, rfl⟩ : ∃ d, e = d + 1 := ⟨e - 1, by omega⟩
        obtain ⟨w, p1, p2⟩ := c57 (M := M) hh hs4 t1 hb' (by omega : i < 40) v (e := e) (by omega)
        have k1 := c121 (M := M) hh hs4 (e := e) (by omega)
        have k5 := c55 (M := M) hh hs4 t1 bl (e := e) (by omega)
        rw [if_neg c0] at k5
        have kn := n32e (M := M) nb.1 (e := e) (by omega)
        rw [t3] at kn
        have kw := c122e (σ := FS h M) (nI i) (nI 0) (nI n - nI 1) (e := e) (by omega)
        rw [wa] at kw
        have k2 := r212 (σ := FS h (j_up M (103 + 3 * s) i w)) hs4 (e := e) (by omega)
        have kl := r143e (σ := FS h (j_up M (103 + 3 * s) i w)) (nI i).toInt64 (lN 0) (nI n - nI 1).toInt64 (e := e) (by omega)
        rw [wb] at kl
        have u2 : j_up M (103 + 3 * s) i w (115 + 8) s = nI bs := by rw [up_o _ _ _ _ _ (by omega)]; exact t2
        have u4 : j_up M (103 + 3 * s) i w (115 + 9) s = nI n := by rw [up_o _ _ _ _ _ (by omega)]; exact t4
        have ix : 40 * s + i < 160 := by omega
        refine ⟨nI 1, j_up M (103 + 3 * s) i w, j_up (j_up M (103 + 3 * s) i w) 125 (40 * s + i) (if bs = 8 then v.toInt8.toInt32 else if bs = 16 then v.toInt16.toInt32 else v), ?_, ?_, up_r _ _ _ _ (by omega), E, z, K0, K1, T, W, ?_⟩
        · (rw [j_C_eq]; simp (disch := omega) only [st_109_0, st_109_1, st_109_2, st_109_5, st_109_5N, st_109_7, st_109_7N, st_109_9, st_109_9N, st_109_12, st_109_13, st_109_14, st_109_17, st_109_18, st_109_18N, st_109_20, st_109_23, st_109_26, st_109_27, st_109_28, st_109_31, st_109_32, st_109_33, st_109_34, st_109_34N, st_109_36, st_109_39, st_109_42, st_109_43, st_109_44, st_109_47, st_109_50, st_109_51, st_109_52, st_109_55, st_109_56, st_109_56N, st_109_58, st_109_59, st_109_60, st_109_63, st_109_64, ini_109, fs_cl, fs_len, fs_rf, fs_M, fs_put, fs_cpy, ↓reduceIte, rv_ref, true_or, or_true, true_and, and_true, nI_ltI, ix_nI, nI_clamp, ps_i, ps_n, Option.bind_some, sm_0, sm_1, sm_2, sm_3, sm_4, sto_0, sto_1, sto_2, sto_3, sto_4, sto_5, sto_6, sto_7, sto_8, sto_9, sto_10, sto_11, sto_12, sto_13, sto_14, nlo_n, nlo_i, nlo_r, nlo_0, nlo_l, and_self, or_self, Nat.reduceEqDiff, Nat.reduceLT, Nat.reduceLeDiff, Nat.one_ne_zero, Nat.zero_ne_one, w0, f0, r7, m0, q0, a1, a2, e10, k1, rk, rf0, nb.1, k5, kn, kw, p1])
        · rcases hb' with q | q | q
          · subst q
            rw [if_pos rfl]
            (rw [j_C_eq]; simp (disch := omega) only [st_214_0, st_214_1, st_214_4, st_214_7, st_214_8, st_214_9, st_214_12, st_214_13, st_214_14, st_214_17, st_214_18, st_214_19, st_214_22, st_214_23, st_214_24, st_214_27, st_214_28, st_214_29, st_214_30, st_214_31, st_214_32, st_214_35, st_214_36, st_214_37, st_214_38, st_214_39, st_214_40, st_214_43, st_214_46, st_214_47, st_214_48, st_214_51, st_214_52, st_214_53, st_214_56, st_214_58, st_214_59, st_214_60, st_214_61, st_214_62, st_214_63, st_214_66, st_214_67, st_214_68, st_214_70, st_214_73, st_214_74, st_214_75, st_214_78, st_214_79, st_214_82, st_214_83, st_214_84, st_214_86, st_214_89, st_214_90, st_214_91, st_214_94, st_214_95, st_214_96, st_214_97, ini_214, fs_cl, fs_len, fs_rf, fs_M, fs_put, fs_cpy, ↓reduceIte, rv_ref, true_or, or_true, true_and, and_true, nI_ltI, ix_nI, nI_clamp, ps_i, ps_n, Option.bind_some, sm_0, sm_1, sm_2, sm_3, sm_4, sto_0, sto_1, sto_2, sto_3, sto_4, sto_5, sto_6, sto_7, sto_8, sto_9, sto_10, sto_11, sto_12, sto_13, sto_14, nlo_n, nlo_i, nlo_r, nlo_0, nlo_l, and_self, or_self, Nat.reduceEqDiff, Nat.reduceLT, Nat.reduceLeDiff, Nat.one_ne_zero, Nat.zero_ne_one, w0, f0, r7, m0, q0, a1, a2, e10, q8, b8a, b8b, q9, b9a, b9b, qa, baa, bab, k2, hs4, u2, u4, nI_eq, kl, nI_mul, nI_add, ix])
          · subst q
            rw [if_neg (by omega), if_pos rfl]
            (rw [j_C_eq]; simp (disch := omega) only [st_214_0, st_214_1, st_214_4, st_214_7, st_214_8, st_214_9, st_214_12, st_214_13, st_214_14, st_214_17, st_214_18, st_214_19, st_214_22, st_214_23, st_214_24, st_214_27, st_214_28, st_214_29, st_214_30, st_214_31, st_214_32, st_214_35, st_214_36, st_214_37, st_214_38, st_214_39, st_214_40, st_214_43, st_214_46, st_214_47, st_214_48, st_214_51, st_214_52, st_214_53, st_214_56, st_214_58, st_214_59, st_214_60, st_214_61, st_214_62, st_214_63, st_214_66, st_214_67, st_214_68, st_214_70, st_214_73, st_214_74, st_214_75, st_214_78, st_214_79, st_214_82, st_214_83, st_214_84, st_214_86, st_214_89, st_214_90, st_214_91, st_214_94, st_214_95, st_214_96, st_214_97, ini_214, fs_cl, fs_len, fs_rf, fs_M, fs_put, fs_cpy, ↓reduceIte, rv_ref, true_or, or_true, true_and, and_true, nI_ltI, ix_nI, nI_clamp, ps_i, ps_n, Option.bind_some, sm_0, sm_1, sm_2, sm_3, sm_4, sto_0, sto_1, sto_2, sto_3, sto_4, sto_5, sto_6, sto_7, sto_8, sto_9, sto_10, sto_11, sto_12, sto_13, sto_14, nlo_n, nlo_i, nlo_r, nlo_0, nlo_l, and_self, or_self, Nat.reduceEqDiff, Nat.reduceLT, Nat.reduceLeDiff, Nat.one_ne_zero, Nat.zero_ne_one, w0, f0, r7, m0, q0, a1, a2, e10, q8, b8a, b8b, q9, b9a, b9b, qa, baa, bab, k2, hs4, u2, u4, nI_eq, kl, nI_mul, nI_add, ix])
          · subst q
            rw [if_neg (by omega), if_neg (by omega)]
            (rw [j_C_eq]; simp (disch := omega) only [st_214_0, st_214_1, st_214_4, st_214_7, st_214_8, st_214_9, st_214_12, st_214_13, st_214_14, st_214_17, st_214_18, st_214_19, st_214_22, st_214_23, st_214_24, st_214_27, st_214_28, st_214_29, st_214_30, st_214_31, st_214_32, st_214_35, st_214_36, st_214_37, st_214_38, st_214_39, st_214_40, st_214_43, st_214_46, st_214_47, st_214_48, st_214_51, st_214_52, st_214_53, st_214_56, st_214_58, st_214_59, st_214_60, st_214_61, st_214_62, st_214_63, st_214_66, st_214_67, st_214_68, st_214_70, st_214_73, st_214_74, st_214_75, st_214_78, st_214_79, st_214_82, st_214_83, st_214_84, st_214_86, st_214_89, st_214_90, st_214_91, st_214_94, st_214_95, st_214_96, st_214_97, ini_214, fs_cl, fs_len, fs_rf, fs_M, fs_put, fs_cpy, ↓reduceIte, rv_ref, true_or, or_true, true_and, and_true, nI_ltI, ix_nI, nI_clamp, ps_i, ps_n, Option.bind_some, sm_0, sm_1, sm_2, sm_3, sm_4, sto_0, sto_1, sto_2, sto_3, sto_4, sto_5, sto_6, sto_7, sto_8, sto_9, sto_10, sto_11, sto_12, sto_13, sto_14, nlo_n, nlo_i, nlo_r, nlo_0, nlo_l, and_self, or_self, Nat.reduceEqDiff, Nat.reduceLT, Nat.reduceLeDiff, Nat.one_ne_zero, Nat.zero_ne_one, w0, f0, r7, m0, q0, a1, a2, e10, q8, b8a, b8b, q9, b9a, b9b, qa, baa, bab, k2, hs4, u2, u4, nI_eq, kl, nI_mul, nI_add, ix])
        · refine ie_sp hi (fun x h1 h2 => by rw [up_r _ _ _ _ (by omega), up_r _ _ _ _ (by omega)]) (SP_up hSP hs4 (fun t ht hne => ?_) hb hn h0 ?_ ?_ ?_ ?_ ?_)
          · refine ⟨by rw [up_r _ _ _ _ (by omega), up_r _ _ _ _ (by omega)], by rw [up_r _ _ _ _ (by omega), up_r _ _ _ _ (by omega)], by rw [up_r _ _ _ _ (by omega), up_r _ _ _ _ (by omega)], by rw [up_o _ _ _ _ _ (by omega), up_o _ _ _ _ _ (by omega)], by rw [up_o _ _ _ _ _ (by omega), up_o _ _ _ _ _ (by omega)], fun j hj => by rw [up_k _ _ _ _ (by omega), up_o _ _ _ _ _ (by omega)]⟩
          · rw [up_o _ _ _ _ _ (by omega), up_o _ _ _ _ _ (by omega)]; exact t1
          · rw [up_o _ _ _ _ _ (by omega), up_o _ _ _ _ _ (by omega)]; exact t2
          · rw [up_o _ _ _ _ _ (by omega), up_o _ _ _ _ _ (by omega)]; exact t3
          · rw [up_o _ _ _ _ _ (by omega), up_o _ _ _ _ _ (by omega)]; exact t4
          · intro j hj
            rw [up_o _ _ (103 + 3 * s) _ _ (by omega)]
            by_cases ej : j = i
            · rw [ej, up_s, up_s]; exact p2
            · rw [up_k _ _ _ _ ej, up_k _ _ _ _ (by omega), up_o _ _ _ _ _ (by omega)]; exact t5 j hj
      · obtain ⟨wa, wb⟩ := (wi_sz (x := y) (n := n) (by omega)).2 hy
        refine go_f hi (k := 1) ?_
        intro e he
        obtain ⟨e, rfl⟩ : ∃ d, e = d + 1 := ⟨e - 1, by omega⟩
        have k1 := c121 (M := M) hh hs4 (e := e) (by omega)
        have k5 := c55 (M := M) hh hs4 t1 bl (e := e) (by omega)
        rw [if_neg c0] at k5
        have kn := n32e (M := M) nb.1 (e := e) (by omega)
        rw [t3] at kn
        have kw := c122e (σ := FS h M) y (nI 0) (nI n - nI 1) (e := e) (by omega)
        rw [wa] at kw
        have kf := c119 (M := M) hh (k := 1) (by omega) (e := e) (by omega)
        have k2 := r212 (σ := FS h (fc 1 M)) hs4 (e := e) (by omega)
        have kl := r143e (σ := FS h (fc 1 M)) y.toInt64 (lN 0) (nI n - nI 1).toInt64 (e := e) (by omega)
        rw [wb] at kl
        have kf2 := r142 (M := fc 1 M) md (k := 1) (by omega) (e := e) (by omega)
        have u2 := t2' 1
        have u4 := t4' 1
        refine ⟨M, fc 1 M, ?_, cq_r, sd, ?_, rg_r, RC_fc hR⟩
        · (rw [j_C_eq]; simp (disch := omega) only [st_109_0, st_109_1, st_109_2, st_109_5, st_109_5N, st_109_7, st_109_7N, st_109_9, st_109_9N, st_109_12, st_109_13, st_109_14, st_109_17, st_109_18, st_109_18N, st_109_20, st_109_23, st_109_26, st_109_27, st_109_28, st_109_31, st_109_32, st_109_33, st_109_34, st_109_34N, st_109_36, st_109_39, st_109_42, st_109_43, st_109_44, st_109_47, st_109_50, st_109_51, st_109_52, st_109_55, st_109_56, st_109_56N, st_109_58, st_109_59, st_109_60, st_109_63, st_109_64, ini_109, fs_cl, fs_len, fs_rf, fs_M, fs_put, fs_cpy, ↓reduceIte, rv_ref, true_or, or_true, true_and, and_true, nI_ltI, ix_nI, nI_clamp, ps_i, ps_n, Option.bind_some, sm_0, sm_1, sm_2, sm_3, sm_4, sto_0, sto_1, sto_2, sto_3, sto_4, sto_5, sto_6, sto_7, sto_8, sto_9, sto_10, sto_11, sto_12, sto_13, sto_14, nlo_n, nlo_i, nlo_r, nlo_0, nlo_l, and_self, or_self, Nat.reduceEqDiff, Nat.reduceLT, Nat.reduceLeDiff, Nat.one_ne_zero, Nat.zero_ne_one, w0, f0, r7, m0, q0, a1, a2, e10, k1, rk, rf0, nb.1, k5, kn, kw, kf])
        · (rw [j_C_eq]; simp (disch := omega) only [st_214_0, st_214_1, st_214_4, st_214_7, st_214_8, st_214_9, st_214_12, st_214_13, st_214_14, st_214_17, st_214_18, st_214_19, st_214_22, st_214_23, st_214_24, st_214_27, st_214_28, st_214_29, st_214_30, st_214_31, st_214_32, st_214_35, st_214_36, st_214_37, st_214_38, st_214_39, st_214_40, st_214_43, st_214_46, st_214_47, st_214_48, st_214_51, st_214_52, st_214_53, st_214_56, st_214_58, st_214_59, st_214_60, st_214_61, st_214_62, st_214_63, st_214_66, st_214_67, st_214_68, st_214_70, st_214_73, st_214_74, st_214_75, st_214_78, st_214_79, st_214_82, st_214_83, st_214_84, st_214_86, st_214_89, st_214_90, st_214_91, st_214_94, st_214_95, st_214_96, st_214_97, ini_214, fs_cl, fs_len, fs_rf, fs_M, fs_put, fs_cpy, ↓reduceIte, rv_ref, true_or, or_true, true_and, and_true, nI_ltI, ix_nI, nI_clamp, ps_i, ps_n, Option.bind_some, sm_0, sm_1, sm_2, sm_3, sm_4, sto_0, sto_1, sto_2, sto_3, sto_4, sto_5, sto_6, sto_7, sto_8, sto_9, sto_10, sto_11, sto_12, sto_13, sto_14, nlo_n, nlo_i, nlo_r, nlo_0, nlo_l, and_self, or_self, Nat.reduceEqDiff, Nat.reduceLT, Nat.reduceLeDiff, Nat.one_ne_zero, Nat.zero_ne_one, w0, f0, r7, m0, q0, a1, a2, e10, q8, b8a, b8b, q9, b9a, b9b, k2, hs4, u2, u4, nb0, kl, kf2])
  · refine go_f0 hi (k := 1) ?_
    intro e he
    obtain ⟨e, rfl⟩ : ∃ d, e = d + 1 := ⟨e - 1, by omega⟩
    have k1 := c121n (M := M) hh hx (e := e) (by omega)
    have kf := c119 (M := M) hh (k := 1) (by omega) (e := e) (by omega)
    refine ⟨by (rw [j_C_eq]; simp (disch := omega) only [st_109_0, st_109_1, st_109_2, st_109_5, st_109_5N, st_109_7, st_109_7N, st_109_9, st_109_9N, st_109_12, st_109_13, st_109_14, st_109_17, st_109_18, st_109_18N, st_109_20, st_109_23, st_109_26, st_109_27, st_109_28, st_109_31, st_109_32, st_109_33, st_109_34, st_109_34N, st_109_36, st_109_39, st_109_42, st_109_43, st_109_44, st_109_47, st_109_50, st_109_51, st_109_52, st_109_55, st_109_56, st_109_56N, st_109_58, st_109_59, st_109_60, st_109_63, st_109_64, ini_109, fs_cl, fs_len, fs_rf, fs_M, fs_put, fs_cpy, ↓reduceIte, rv_ref, true_or, or_true, true_and, and_true, nI_ltI, ix_nI, nI_clamp, ps_i, ps_n, Option.bind_some, sm_0, sm_1, sm_2, sm_3, sm_4, sto_0, sto_1, sto_2, sto_3, sto_4, sto_5, sto_6, sto_7, sto_8, sto_9, sto_10, sto_11, sto_12, sto_13, sto_14, nlo_n, nlo_i, nlo_r, nlo_0, nlo_l, and_self, or_self, Nat.reduceEqDiff, Nat.reduceLT, Nat.reduceLeDiff, Nat.one_ne_zero, Nat.zero_ne_one, w0, f0, r7, m0, q0, a1, a2, e10, k1, kf]), fun M' hR' => ?_⟩
    have k2 := r212n (σ := FS h M') hx (e := e) (by omega)
    have kf := r142 (M := M') md (k := 1) (by omega) (e := e) (by omega)
    (rw [j_C_eq]; simp (disch := omega) only [st_214_0, st_214_1, st_214_4, st_214_7, st_214_8, st_214_9, st_214_12, st_214_13, st_214_14, st_214_17, st_214_18, st_214_19, st_214_22, st_214_23, st_214_24, st_214_27, st_214_28, st_214_29, st_214_30, st_214_31, st_214_32, st_214_35, st_214_36, st_214_37, st_214_38, st_214_39, st_214_40, st_214_43, st_214_46, st_214_47, st_214_48, st_214_51, st_214_52, st_214_53, st_214_56, st_214_58, st_214_59, st_214_60, st_214_61, st_214_62, st_214_63, st_214_66, st_214_67, st_214_68, st_214_70, st_214_73, st_214_74, st_214_75, st_214_78, st_214_79, st_214_82, st_214_83, st_214_84, st_214_86, st_214_89, st_214_90, st_214_91, st_214_94, st_214_95, st_214_96, st_214_97, ini_214, fs_cl, fs_len, fs_rf, fs_M, fs_put, fs_cpy, ↓reduceIte, rv_ref, true_or, or_true, true_and, and_true, nI_ltI, ix_nI, nI_clamp, ps_i, ps_n, Option.bind_some, sm_0, sm_1, sm_2, sm_3, sm_4, sto_0, sto_1, sto_2, sto_3, sto_4, sto_5, sto_6, sto_7, sto_8, sto_9, sto_10, sto_11, sto_12, sto_13, sto_14, nlo_n, nlo_i, nlo_r, nlo_0, nlo_l, and_self, or_self, Nat.reduceEqDiff, Nat.reduceLT, Nat.reduceLeDiff, Nat.one_ne_zero, Nat.zero_ne_one, w0, f0, r7, m0, q0, a1, a2, e10, k2, kf])
