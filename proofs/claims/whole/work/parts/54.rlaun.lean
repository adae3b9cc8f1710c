/-! The reference: launder. -/
variable {h : j_Hd} {M : Nat → Nat → Int32} {σ : j_St} {d o : Nat} {E : Nat → Nat} {z : Int32} {K0 K1 : List Int32}
theorem nI_rm (a b : Nat) : nI a - nI (a / b) * nI b = nI (a % b) := by
  rw [nI_mul, nI_sub (Nat.div_mul_le_self a b)]
  congr 1
  have e := Nat.div_add_mod a b
  rw [Nat.mul_comm] at e
  omega
theorem r169l {j : Nat} (hj : j < 1000) {e : Nat} (he : 1 ≤ e) : ∀ r i, r + i = sz j → (∀ k, k < i → 1 ≤ j / 10 ^ k % 10 ∧ j / 10 ^ k % 10 ≤ 7) → j_X e 169 51 [some (.int (nI j)), some (.int (nI (sz j))), some (.int (nI (j / 10 ^ i))), some (.int (nI i))] [] σ = some (some (.int (if ∀ k, k < sz j → 1 ≤ j / 10 ^ k % 10 ∧ j / 10 ^ k % 10 ≤ 7 then nI (sz j) else -1)), σ) := by
  have h3 := sz_le j
  have hd : ∀ k, j / 10 ^ k < 2147483648 := fun k => Nat.lt_of_le_of_lt (Nat.div_le_self _ _) (by omega)
  have t0 : ¬ nI 10 = nI 0 := by decide +kernel
  have e10 : ¬ nI 1 = nI 0 := by decide +kernel
  intro r
  induction r with
  | zero =>
    intro i hi hk
    have e1 : ¬ sz j < sz j := by omega
    have ei : i = sz j := by omega
    subst ei
    rw [if_pos hk, st_169_51]
    simp (disch := omega) only [st_169_0, st_169_1, st_169_4, st_169_5, st_169_8, st_169_9, st_169_11, st_169_14, st_169_15, st_169_18, st_169_19, st_169_21, st_169_24, st_169_25, st_169_28, st_169_29, st_169_32, st_169_35, st_169_36, st_169_39, st_169_40, st_169_41, st_169_42, st_169_45, st_169_46, st_169_47, st_169_48, st_169_49, st_169_50, st_169_52, st_169_53, st_169_56, st_169_57, st_169_59, st_169_60, st_169_61, st_169_62, st_169_65, st_169_68, st_169_71, st_169_72, st_169_73, st_169_74, st_169_76, st_169_77, st_169_78, st_169_81, st_169_84, st_169_85, ini_169, fs_cl, fs_len, fs_rf, fs_M, fs_put, fs_cpy, ↓reduceIte, rv_ref, true_or, or_true, true_and, and_true, nI_ltI, ix_nI, nI_clamp, ps_i, ps_n, Option.bind_some, sm_0, sm_1, sm_2, sm_3, sm_4, sto_0, sto_1, sto_2, sto_3, sto_4, sto_5, sto_6, sto_7, sto_8, sto_9, sto_10, sto_11, sto_12, sto_13, sto_14, nlo_n, nlo_i, nlo_r, nlo_0, nlo_l, and_self, or_self, Nat.reduceEqDiff, Nat.reduceLT, Nat.reduceLeDiff, Nat.one_ne_zero, Nat.zero_ne_one, e1]
  | succ r ih =>
    intro i hi hk
    have e1 : i < sz j := by omega
    have hdi := hd i
    have gl := r143e (σ := σ) (nI (j / 10 ^ i % 10)).toInt64 (lN 1) (lN 7) he
    rw [st_169_51]
    by_cases c1 : 1 ≤ j / 10 ^ i % 10 ∧ j / 10 ^ i % 10 ≤ 7
    · rw [lin_in c1.1 c1.2 (by omega)] at gl
      have hX := ih (i + 1) (by omega) (fun k hk' => by
        by_cases e : k = i
        · rw [e]; exact c1
        · exact hk k (by omega))
      rw [Nat.pow_succ, ← Nat.div_div_eq_div_mul] at hX
      simp (disch := omega) only [st_169_0, st_169_1, st_169_4, st_169_5, st_169_8, st_169_9, st_169_11, st_169_14, st_169_15, st_169_18, st_169_19, st_169_21, st_169_24, st_169_25, st_169_28, st_169_29, st_169_32, st_169_35, st_169_36, st_169_39, st_169_40, st_169_41, st_169_42, st_169_45, st_169_46, st_169_47, st_169_48, st_169_49, st_169_50, st_169_52, st_169_53, st_169_56, st_169_57, st_169_59, st_169_60, st_169_61, st_169_62, st_169_65, st_169_68, st_169_71, st_169_72, st_169_73, st_169_74, st_169_76, st_169_77, st_169_78, st_169_81, st_169_84, st_169_85, ini_169, fs_cl, fs_len, fs_rf, fs_M, fs_put, fs_cpy, ↓reduceIte, rv_ref, true_or, or_true, true_and, and_true, nI_ltI, ix_nI, nI_clamp, ps_i, ps_n, Option.bind_some, sm_0, sm_1, sm_2, sm_3, sm_4, sto_0, sto_1, sto_2, sto_3, sto_4, sto_5, sto_6, sto_7, sto_8, sto_9, sto_10, sto_11, sto_12, sto_13, sto_14, nlo_n, nlo_i, nlo_r, nlo_0, nlo_l, and_self, or_self, Nat.reduceEqDiff, Nat.reduceLT, Nat.reduceLeDiff, Nat.one_ne_zero, Nat.zero_ne_one, e1, t0, nI_rm, gl, e10, nI_div, nI_add, hX]
    · rw [lin_out (fun ⟨k, g1, g2, g3⟩ => by
        rw [nI_eq (by omega) (by omega)] at g3
        exact c1 (by omega)) (by omega) (by omega)] at gl
      rw [if_neg (fun hh => c1 (hh i e1))]
      simp (disch := omega) only [st_169_0, st_169_1, st_169_4, st_169_5, st_169_8, st_169_9, st_169_11, st_169_14, st_169_15, st_169_18, st_169_19, st_169_21, st_169_24, st_169_25, st_169_28, st_169_29, st_169_32, st_169_35, st_169_36, st_169_39, st_169_40, st_169_41, st_169_42, st_169_45, st_169_46, st_169_47, st_169_48, st_169_49, st_169_50, st_169_52, st_169_53, st_169_56, st_169_57, st_169_59, st_169_60, st_169_61, st_169_62, st_169_65, st_169_68, st_169_71, st_169_72, st_169_73, st_169_74, st_169_76, st_169_77, st_169_78, st_169_81, st_169_84, st_169_85, ini_169, fs_cl, fs_len, fs_rf, fs_M, fs_put, fs_cpy, ↓reduceIte, rv_ref, true_or, or_true, true_and, and_true, nI_ltI, ix_nI, nI_clamp, ps_i, ps_n, Option.bind_some, sm_0, sm_1, sm_2, sm_3, sm_4, sto_0, sto_1, sto_2, sto_3, sto_4, sto_5, sto_6, sto_7, sto_8, sto_9, sto_10, sto_11, sto_12, sto_13, sto_14, nlo_n, nlo_i, nlo_r, nlo_0, nlo_l, and_self, or_self, Nat.reduceEqDiff, Nat.reduceLT, Nat.reduceLeDiff, Nat.one_ne_zero, Nat.zero_ne_one, e1, t0, nI_rem, gl]
theorem r169a {j : Nat} (hj : j < 1000) {e : Nat} (he : 2 ≤ e) : j_C e 169 [.int (nI j)] σ = some (some (.int (if ∀ k, k < sz j → 1 ≤ j / 10 ^ k % 10 ∧ j / 10 ^ k % 10 ≤ 7 then nI (sz j) else -1)), σ) := by
  obtain ⟨e, rfl⟩ : ∃ d, e = d + 1 := ⟨e - 1, by omega⟩
  have hX := r169l (σ := σ) hj (e := e) (by omega) (sz j) 0 (by omega) (fun k hk => by omega)
  rw [Nat.pow_zero, Nat.div_one] at hX
  have f0 : ¬ nI j < nI 0 := nI_nlt (by omega) (by omega)
  rw [j_C_eq]
  by_cases c1 : j = 0
  · subst c1
    have es : sz 0 = 0 := rfl
    rw [es] at hX
    simp (disch := omega) only [st_169_0, st_169_1, st_169_4, st_169_5, st_169_8, st_169_9, st_169_11, st_169_14, st_169_15, st_169_18, st_169_19, st_169_21, st_169_24, st_169_25, st_169_28, st_169_29, st_169_32, st_169_35, st_169_36, st_169_39, st_169_40, st_169_41, st_169_42, st_169_45, st_169_46, st_169_47, st_169_48, st_169_49, st_169_50, st_169_52, st_169_53, st_169_56, st_169_57, st_169_59, st_169_60, st_169_61, st_169_62, st_169_65, st_169_68, st_169_71, st_169_72, st_169_73, st_169_74, st_169_76, st_169_77, st_169_78, st_169_81, st_169_84, st_169_85, ini_169, fs_cl, fs_len, fs_rf, fs_M, fs_put, fs_cpy, ↓reduceIte, rv_ref, true_or, or_true, true_and, and_true, nI_ltI, ix_nI, nI_clamp, ps_i, ps_n, Option.bind_some, sm_0, sm_1, sm_2, sm_3, sm_4, sto_0, sto_1, sto_2, sto_3, sto_4, sto_5, sto_6, sto_7, sto_8, sto_9, sto_10, sto_11, sto_12, sto_13, sto_14, nlo_n, nlo_i, nlo_r, nlo_0, nlo_l, and_self, or_self, Nat.reduceEqDiff, Nat.reduceLT, Nat.reduceLeDiff, Nat.one_ne_zero, Nat.zero_ne_one, f0, es, hX]
  · by_cases c2 : j < 10
    · have es : sz j = 1 := by unfold sz; rw [if_neg c1, if_pos c2]
      rw [es] at hX
      simp (disch := omega) only [st_169_0, st_169_1, st_169_4, st_169_5, st_169_8, st_169_9, st_169_11, st_169_14, st_169_15, st_169_18, st_169_19, st_169_21, st_169_24, st_169_25, st_169_28, st_169_29, st_169_32, st_169_35, st_169_36, st_169_39, st_169_40, st_169_41, st_169_42, st_169_45, st_169_46, st_169_47, st_169_48, st_169_49, st_169_50, st_169_52, st_169_53, st_169_56, st_169_57, st_169_59, st_169_60, st_169_61, st_169_62, st_169_65, st_169_68, st_169_71, st_169_72, st_169_73, st_169_74, st_169_76, st_169_77, st_169_78, st_169_81, st_169_84, st_169_85, ini_169, fs_cl, fs_len, fs_rf, fs_M, fs_put, fs_cpy, ↓reduceIte, rv_ref, true_or, or_true, true_and, and_true, nI_ltI, ix_nI, nI_clamp, ps_i, ps_n, Option.bind_some, sm_0, sm_1, sm_2, sm_3, sm_4, sto_0, sto_1, sto_2, sto_3, sto_4, sto_5, sto_6, sto_7, sto_8, sto_9, sto_10, sto_11, sto_12, sto_13, sto_14, nlo_n, nlo_i, nlo_r, nlo_0, nlo_l, and_self, or_self, Nat.reduceEqDiff, Nat.reduceLT, Nat.reduceLeDiff, Nat.one_ne_zero, Nat.zero_ne_one, nI_eq, c1, c2, f0, es, hX]
    · by_cases c3 : j < 100
      · have es : sz j = 2 := by unfold sz; rw [if_neg c1, if_neg c2, if_pos c3]
        rw [es] at hX
        simp (disch := omega) only [st_169_0, st_169_1, st_169_4, st_169_5, st_169_8, st_169_9, st_169_11, st_169_14, st_169_15, st_169_18, st_169_19, st_169_21, st_169_24, st_169_25, st_169_28, st_169_29, st_169_32, st_169_35, st_169_36, st_169_39, st_169_40, st_169_41, st_169_42, st_169_45, st_169_46, st_169_47, st_169_48, st_169_49, st_169_50, st_169_52, st_169_53, st_169_56, st_169_57, st_169_59, st_169_60, st_169_61, st_169_62, st_169_65, st_169_68, st_169_71, st_169_72, st_169_73, st_169_74, st_169_76, st_169_77, st_169_78, st_169_81, st_169_84, st_169_85, ini_169, fs_cl, fs_len, fs_rf, fs_M, fs_put, fs_cpy, ↓reduceIte, rv_ref, true_or, or_true, true_and, and_true, nI_ltI, ix_nI, nI_clamp, ps_i, ps_n, Option.bind_some, sm_0, sm_1, sm_2, sm_3, sm_4, sto_0, sto_1, sto_2, sto_3, sto_4, sto_5, sto_6, sto_7, sto_8, sto_9, sto_10, sto_11, sto_12, sto_13, sto_14, nlo_n, nlo_i, nlo_r, nlo_0, nlo_l, and_self, or_self, Nat.reduceEqDiff, Nat.reduceLT, Nat.reduceLeDiff, Nat.one_ne_zero, Nat.zero_ne_one, nI_eq, c1, c2, c3, f0, es, hX]
      · have es : sz j = 3 := by unfold sz; rw [if_neg c1, if_neg c2, if_neg c3]
        rw [es] at hX
        simp (disch := omega) only [st_169_0, st_169_1, st_169_4, st_169_5, st_169_8, st_169_9, st_169_11, st_169_14, st_169_15, st_169_18, st_169_19, st_169_21, st_169_24, st_169_25, st_169_28, st_169_29, st_169_32, st_169_35, st_169_36, st_169_39, st_169_40, st_169_41, st_169_42, st_169_45, st_169_46, st_169_47, st_169_48, st_169_49, st_169_50, st_169_52, st_169_53, st_169_56, st_169_57, st_169_59, st_169_60, st_169_61, st_169_62, st_169_65, st_169_68, st_169_71, st_169_72, st_169_73, st_169_74, st_169_76, st_169_77, st_169_78, st_169_81, st_169_84, st_169_85, ini_169, fs_cl, fs_len, fs_rf, fs_M, fs_put, fs_cpy, ↓reduceIte, rv_ref, true_or, or_true, true_and, and_true, nI_ltI, ix_nI, nI_clamp, ps_i, ps_n, Option.bind_some, sm_0, sm_1, sm_2, sm_3, sm_4, sto_0, sto_1, sto_2, sto_3, sto_4, sto_5, sto_6, sto_7, sto_8, sto_9, sto_10, sto_11, sto_12, sto_13, sto_14, nlo_n, nlo_i, nlo_r, nlo_0, nlo_l, and_self, or_self, Nat.reduceEqDiff, Nat.reduceLT, Nat.reduceLeDiff, Nat.one_ne_zero, Nat.zero_ne_one, nI_eq, c1, c2, c3, hj, f0, es, hX]
theorem dg_iff {j : Nat} : (∀ k, k < sz j → 1 ≤ dg j 10 (sz j - 1 - k) ∧ dg j 10 (sz j - 1 - k) ≤ 7) ↔ ∀ k, k < sz j → 1 ≤ j / 10 ^ k % 10 ∧ j / 10 ^ k % 10 ≤ 7 := by
  constructor
  · intro hh k hk
    have := hh (sz j - 1 - k) (by omega)
    rw [show sz j - 1 - (sz j - 1 - k) = k by omega] at this
    exact this
  · intro hh k hk
    exact hh (sz j - 1 - k) (by omega)
theorem r169y {x y w : Nat} (hr : Rw x y w) {e : Nat} (he : 2 ≤ e) : j_C e 169 [.int (nI (rn x y w))] σ = some (some (.int (nI (rs x y w))), σ) := by
  have g := r169a (σ := σ) (rn_lt hr) he
  rw [if_pos (dg_iff.mp (rw_dg hr)), sz_rn hr] at g
  exact g
theorem r169n {v : Int32} (hn : ¬ ∃ x y z, Rw x y z ∧ v = nI (rn x y z)) {e : Nat} (he : 2 ≤ e) : j_C e 169 [.int v] σ = some (some (.int (-1)), σ) := by
  by_cases hv : ∃ j, j < 1000 ∧ v = nI j
  · obtain ⟨j, hj, rfl⟩ := hv
    have g := r169a (σ := σ) hj he
    rw [if_neg] at g
    · exact g
    · intro hh
      by_cases h7 : j ≤ 777
      · obtain ⟨x, y, w, h1, h2⟩ := rw_ex j h7 (dg_iff.mpr hh)
        exact hn ⟨x, y, w, h1, by rw [h2]⟩
      · have es : sz j = 3 := by unfold sz; rw [if_neg (by omega), if_neg (by omega), if_neg (by omega)]
        rw [es] at hh
        have a0 := hh 0 (by omega)
        have a1 := hh 1 (by omega)
        have a2 := hh 2 (by omega)
        simp only [Nat.pow_zero, Nat.div_one, Nat.pow_one, show 10 ^ 2 = 100 by rfl] at a0 a1 a2
        omega
  · obtain ⟨e, rfl⟩ : ∃ d, e = d + 1 := ⟨e - 1, by omega⟩
    rw [j_C_eq]
    by_cases c0 : v < nI 0
    · have n0 : ¬ v = nI 0 := by intro e; rw [e] at c0; exact nI_nlt (Nat.le_refl _) (by omega) c0
      have n10 : v < nI 10 := by rw [lt0] at c0; rw [ltn (by omega)]; omega
      simp only [st_169_0, st_169_1, st_169_4, st_169_5, st_169_8, st_169_9, st_169_11, st_169_14, st_169_15, st_169_18, st_169_19, st_169_21, st_169_24, st_169_25, st_169_28, st_169_29, st_169_32, st_169_35, st_169_36, st_169_39, st_169_40, st_169_41, st_169_42, st_169_45, st_169_46, st_169_47, st_169_48, st_169_49, st_169_50, st_169_52, st_169_53, st_169_56, st_169_57, st_169_59, st_169_60, st_169_61, st_169_62, st_169_65, st_169_68, st_169_71, st_169_72, st_169_73, st_169_74, st_169_76, st_169_77, st_169_78, st_169_81, st_169_84, st_169_85, ini_169, fs_cl, fs_len, fs_rf, fs_M, fs_put, fs_cpy, ↓reduceIte, rv_ref, true_or, or_true, true_and, and_true, nI_ltI, ix_nI, nI_clamp, ps_i, ps_n, Option.bind_some, sm_0, sm_1, sm_2, sm_3, sm_4, sto_0, sto_1, sto_2, sto_3, sto_4, sto_5, sto_6, sto_7, sto_8, sto_9, sto_10, sto_11, sto_12, sto_13, sto_14, nlo_n, nlo_i, nlo_r, nlo_0, nlo_l, and_self, or_self, Nat.reduceEqDiff, Nat.reduceLT, Nat.reduceLeDiff, Nat.one_ne_zero, Nat.zero_ne_one, n0, n10, c0]
    · have b := v.toInt_lt
      rw [lt0] at c0
      have b1 : 1000 ≤ v.toInt := by
        refine Decidable.byContradiction (fun hh => hv ⟨v.toInt.toNat, by omega, ?_⟩)
        rw [nI_z, Int.toNat_of_nonneg (by omega)]
        exact zI_of v
      have c0' : ¬ v < nI 0 := by rw [lt0]; exact c0
      have n0 : ¬ v = nI 0 := by rw [eqn (by omega)]; omega
      have n10 : ¬ v < nI 10 := by rw [ltn (by omega)]; omega
      have n100 : ¬ v < nI 100 := by rw [ltn (by omega)]; omega
      have n1000 : ¬ v < nI 1000 := by rw [ltn (by omega)]; omega
      have nm : ¬ nI 0 < (-1 : Int32) := by decide +kernel
      simp only [st_169_0, st_169_1, st_169_4, st_169_5, st_169_8, st_169_9, st_169_11, st_169_14, st_169_15, st_169_18, st_169_19, st_169_21, st_169_24, st_169_25, st_169_28, st_169_29, st_169_32, st_169_35, st_169_36, st_169_39, st_169_40, st_169_41, st_169_42, st_169_45, st_169_46, st_169_47, st_169_48, st_169_49, st_169_50, st_169_52, st_169_53, st_169_56, st_169_57, st_169_59, st_169_60, st_169_61, st_169_62, st_169_65, st_169_68, st_169_71, st_169_72, st_169_73, st_169_74, st_169_76, st_169_77, st_169_78, st_169_81, st_169_84, st_169_85, ini_169, fs_cl, fs_len, fs_rf, fs_M, fs_put, fs_cpy, ↓reduceIte, rv_ref, true_or, or_true, true_and, and_true, nI_ltI, ix_nI, nI_clamp, ps_i, ps_n, Option.bind_some, sm_0, sm_1, sm_2, sm_3, sm_4, sto_0, sto_1, sto_2, sto_3, sto_4, sto_5, sto_6, sto_7, sto_8, sto_9, sto_10, sto_11, sto_12, sto_13, sto_14, nlo_n, nlo_i, nlo_r, nlo_0, nlo_l, and_self, or_self, Nat.reduceEqDiff, Nat.reduceLT, Nat.reduceLeDiff, Nat.one_ne_zero, Nat.zero_ne_one, n0, n10, n100, n1000, c0']
      rw [st_169_51]
      simp only [st_169_0, st_169_1, st_169_4, st_169_5, st_169_8, st_169_9, st_169_11, st_169_14, st_169_15, st_169_18, st_169_19, st_169_21, st_169_24, st_169_25, st_169_28, st_169_29, st_169_32, st_169_35, st_169_36, st_169_39, st_169_40, st_169_41, st_169_42, st_169_45, st_169_46, st_169_47, st_169_48, st_169_49, st_169_50, st_169_52, st_169_53, st_169_56, st_169_57, st_169_59, st_169_60, st_169_61, st_169_62, st_169_65, st_169_68, st_169_71, st_169_72, st_169_73, st_169_74, st_169_76, st_169_77, st_169_78, st_169_81, st_169_84, st_169_85, ini_169, fs_cl, fs_len, fs_rf, fs_M, fs_put, fs_cpy, ↓reduceIte, rv_ref, true_or, or_true, true_and, and_true, nI_ltI, ix_nI, nI_clamp, ps_i, ps_n, Option.bind_some, sm_0, sm_1, sm_2, sm_3, sm_4, sto_0, sto_1, sto_2, sto_3, sto_4, sto_5, sto_6, sto_7, sto_8, sto_9, sto_10, sto_11, sto_12, sto_13, sto_14, nlo_n, nlo_i, nlo_r, nlo_0, nlo_l, and_self, or_self, Nat.reduceEqDiff, Nat.reduceLT, Nat.reduceLeDiff, Nat.one_ne_zero, Nat.zero_ne_one, nm]
/-- a way in the reference: the traders are noted -/
def toS (M : Nat → Nat → Int32) (o v n s : Nat) (i : Nat) : Prop := ∀ j, i ≤ j → j < s → M (o + 6) j = nI (dg v n (s - 1 - j))
theorem on_s {n s i : Nat} (hn : 0 < n) (hi : i < s) : n ^ (s - 1 - i) / (if i < s - 1 then n else 1) = n ^ (s - 1 - (i + 1)) := by
  by_cases c : i < s - 1
  · rw [if_pos c, show s - 1 - i = s - 1 - (i + 1) + 1 by omega, Nat.pow_succ, Nat.mul_div_cancel _ hn]
  · rw [if_neg c, Nat.div_one, show s - 1 - i = s - 1 - (i + 1) by omega]
theorem r195b (hk : Md h o) {n s v : Nat} (hn : 0 < n) (hn6 : n ≤ 6) (hs : s ≤ 3) (hv : v < 1000) {x1 x2 : Option Value} {e : Nat} : ∀ r i (M : Nat → Nat → Int32) (o8 : Option Value), r + i = s → M (o + 1) 0 = nI n → ∃ M' x5 x8, j_X e 195 48 [some (.ref o), x1, x2, some (.int (nI s)), some (.int (nI v)), some (.int (nI (n ^ (s - 1 - i)))), some (.int (nI 0)), some (.int (nI i)), o8] [] (FS h M) = j_X e 195 151 [some (.ref o), x1, x2, some (.int (nI s)), some (.int (nI v)), x5, some (.int (nI 0)), some (.int (nI s)), x8] [] (FS h M') ∧ toS M' o v n s i ∧ (∀ j, j < i → M' (o + 6) j = M (o + 6) j) ∧ ∀ x, x ≠ o + 6 → M' x = M x := by
  have m0 := hk.1
  have q0 := hk.2.1.1
  have a1 := hk.2.1.2.1
  have a2 := hk.2.1.2.2.1
  have q6 := hk.2.2.2.2.2.2.1.1
  have b1 := hk.2.2.2.2.2.2.1.2.1
  have b2 := hk.2.2.2.2.2.2.1.2.2.1
  intro r
  induction r with
  | zero =>
    intro i M o8 hr hM
    have ei : i = s := by omega
    have e1 : ¬ s < s := by omega
    subst ei
    refine ⟨M, some (.int (nI (n ^ (i - 1 - i)))), o8, ?_, fun j h1 h2 => by omega, fun _ _ => rfl, fun _ _ => rfl⟩
    · rw [st_195_48]
      simp (disch := omega) only [st_195_50, st_195_51, st_195_54, st_195_56, st_195_58, st_195_59, st_195_60, st_195_63, st_195_64, st_195_65, st_195_66, st_195_68, st_195_69, st_195_72, st_195_74, st_195_76, st_195_77, st_195_79, st_195_81, st_195_82, st_195_83, st_195_84, st_195_87, st_195_88, st_195_91, st_195_92, st_195_93, st_195_96, st_195_97, st_195_98, st_195_100, st_195_102, st_195_105, st_195_106, st_195_107, st_195_108, st_195_111, st_195_113, st_195_116, st_195_117, st_195_118, st_195_120, st_195_123, st_195_126, st_195_127, st_195_130, st_195_131, st_195_133, st_195_135, st_195_138, st_195_139, st_195_140, st_195_142, st_195_145, st_195_148, ini_195, fs_cl, fs_len, fs_rf, fs_M, fs_put, fs_cpy, ↓reduceIte, rv_ref, true_or, or_true, true_and, and_true, nI_ltI, ix_nI, nI_clamp, ps_i, ps_n, Option.bind_some, sm_0, sm_1, sm_2, sm_3, sm_4, sto_0, sto_1, sto_2, sto_3, sto_4, sto_5, sto_6, sto_7, sto_8, sto_9, sto_10, sto_11, sto_12, sto_13, sto_14, nlo_n, nlo_i, nlo_r, nlo_0, nlo_l, and_self, or_self, Nat.reduceEqDiff, Nat.reduceLT, Nat.reduceLeDiff, Nat.one_ne_zero, Nat.zero_ne_one, e1]
  | succ r ih =>
    intro i M o8 hr hM
    have e1 : i < s := by omega
    have i3 : i < 3 := by omega
    have pn : 0 < n ^ (s - 1 - i) := Nat.pow_pos hn
    have pl : n ^ (s - 1 - i) ≤ 216 := by
      have e1 := Nat.pow_le_pow_left hn6 (s - 1 - i)
      have e2 := Nat.pow_le_pow_right (show 0 < 6 by omega) (show s - 1 - i ≤ 3 by omega)
      omega
    have f1 : ¬ nI (n ^ (s - 1 - i)) = nI 0 := nI_ne (by omega) (by omega) (by omega)
    have f2 : ¬ nI n = nI 0 := nI_ne (by omega) (by omega) (by omega)
    have f3 : ¬ nI 1 = nI 0 := by decide +kernel
    have dl : v / n ^ (s - 1 - i) < 2147483648 := Nat.lt_of_le_of_lt (Nat.div_le_self _ _) (by omega)
    have os := on_s hn e1
    obtain ⟨M', x5, x8, s1, s2, s3, s4⟩ := ih (i + 1) (j_up M (o + 6) i (nI (dg v n (s - 1 - i)))) (some (.int (nI (dg v n (s - 1 - i))))) (by omega) (by rw [up_o _ _ _ _ _ (by omega)]; exact hM)
    refine ⟨M', x5, x8, ?_, fun j h1 h2 => ?_, fun j hj => ?_, fun x hx => ?_⟩
    · have hM2 : j_up M (o + 6) i (nI (dg v n (s - 1 - i))) (o + 1) 0 = nI n := by rw [up_o _ _ _ _ _ (by omega)]; exact hM
      rw [← s1, st_195_48]
      unfold dg at hM2 ⊢
      by_cases c : i < s - 1
      · rw [if_pos c] at os
        simp (disch := omega) only [st_195_50, st_195_51, st_195_54, st_195_56, st_195_58, st_195_59, st_195_60, st_195_63, st_195_64, st_195_65, st_195_66, st_195_68, st_195_69, st_195_72, st_195_74, st_195_76, st_195_77, st_195_79, st_195_81, st_195_82, st_195_83, st_195_84, st_195_87, st_195_88, st_195_91, st_195_92, st_195_93, st_195_96, st_195_97, st_195_98, st_195_100, st_195_102, st_195_105, st_195_106, st_195_107, st_195_108, st_195_111, st_195_113, st_195_116, st_195_117, st_195_118, st_195_120, st_195_123, st_195_126, st_195_127, st_195_130, st_195_131, st_195_133, st_195_135, st_195_138, st_195_139, st_195_140, st_195_142, st_195_145, st_195_148, ini_195, fs_cl, fs_len, fs_rf, fs_M, fs_put, fs_cpy, ↓reduceIte, rv_ref, true_or, or_true, true_and, and_true, nI_ltI, ix_nI, nI_clamp, ps_i, ps_n, Option.bind_some, sm_0, sm_1, sm_2, sm_3, sm_4, sto_0, sto_1, sto_2, sto_3, sto_4, sto_5, sto_6, sto_7, sto_8, sto_9, sto_10, sto_11, sto_12, sto_13, sto_14, nlo_n, nlo_i, nlo_r, nlo_0, nlo_l, and_self, or_self, Nat.reduceEqDiff, Nat.reduceLT, Nat.reduceLeDiff, Nat.one_ne_zero, Nat.zero_ne_one, m0, q0, a1, a2, q6, b1, b2, hM, e1, i3, f1, f2, nI_div, nI_rm, hM2, nI_sub, c, os, nI_add]
      · rw [if_neg c] at os
        simp (disch := omega) only [st_195_50, st_195_51, st_195_54, st_195_56, st_195_58, st_195_59, st_195_60, st_195_63, st_195_64, st_195_65, st_195_66, st_195_68, st_195_69, st_195_72, st_195_74, st_195_76, st_195_77, st_195_79, st_195_81, st_195_82, st_195_83, st_195_84, st_195_87, st_195_88, st_195_91, st_195_92, st_195_93, st_195_96, st_195_97, st_195_98, st_195_100, st_195_102, st_195_105, st_195_106, st_195_107, st_195_108, st_195_111, st_195_113, st_195_116, st_195_117, st_195_118, st_195_120, st_195_123, st_195_126, st_195_127, st_195_130, st_195_131, st_195_133, st_195_135, st_195_138, st_195_139, st_195_140, st_195_142, st_195_145, st_195_148, ini_195, fs_cl, fs_len, fs_rf, fs_M, fs_put, fs_cpy, ↓reduceIte, rv_ref, true_or, or_true, true_and, and_true, nI_ltI, ix_nI, nI_clamp, ps_i, ps_n, Option.bind_some, sm_0, sm_1, sm_2, sm_3, sm_4, sto_0, sto_1, sto_2, sto_3, sto_4, sto_5, sto_6, sto_7, sto_8, sto_9, sto_10, sto_11, sto_12, sto_13, sto_14, nlo_n, nlo_i, nlo_r, nlo_0, nlo_l, and_self, or_self, Nat.reduceEqDiff, Nat.reduceLT, Nat.reduceLeDiff, Nat.one_ne_zero, Nat.zero_ne_one, m0, q0, a1, a2, q6, b1, b2, hM, e1, i3, f1, f2, f3, nI_div, nI_rm, hM2, nI_sub, c, os, nI_add]
    · by_cases ej : j = i
      · rw [s3 j (by omega), ej, up_s]
      · exact s2 j (by omega) h2
    · rw [s3 j (by omega), up_k _ _ _ _ (by omega)]
    · rw [s4 x hx, up_r _ _ _ _ hx]
