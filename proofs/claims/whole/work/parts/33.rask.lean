/-! The reference: its loops over the land. -/
variable {h : j_Hd} {M : Nat → Nat → Int32} {σ : j_St} {d o : Nat} {E : Nat → Nat} {z : Int32}
theorem r149 (hk : Md h o) : ∃ M', j_C (d + 1) 149 [.ref o] (FS h M) = some (none, FS h M') ∧ (∀ k, k < 78 → M' (o + 4) k = M (o + 1) k) ∧ ∀ x, x ≠ o + 4 → M' x = M x := by
  obtain ⟨m0, ⟨q0, a1, a2, a3⟩, _, _, ⟨q4, b1, b2, b3⟩, _⟩ := id hk
  have L : ∀ r k (M : Nat → Nat → Int32), r + k = 78 → ∃ M', j_X d 149 2 [some (.ref o), some (.int (nI k))] [] (FS h M) = some (none, FS h M') ∧ (∀ i, k ≤ i → i < 78 → M' (o + 4) i = M (o + 1) i) ∧ (∀ i, i < k → M' (o + 4) i = M (o + 4) i) ∧ ∀ x, x ≠ o + 4 → M' x = M x := by
    intro r
    induction r with
    | zero =>
      intro k M hk
      have e1 : ¬ k < 78 := by omega
      refine ⟨M, ?_, fun i h1 h2 => by omega, fun _ _ => rfl, fun _ _ => rfl⟩
      rw [st_149_2]
      simp (disch := omega) only [st_149_0, st_149_1, st_149_3, st_149_5, st_149_8, st_149_9, st_149_12, st_149_13, st_149_14, st_149_17, st_149_18, st_149_19, st_149_20, st_149_23, st_149_26, ini_149, fs_cl, fs_len, fs_rf, fs_M, fs_put, fs_cpy, ↓reduceIte, rv_ref, true_or, or_true, true_and, and_true, nI_ltI, ix_nI, nI_clamp, ps_i, ps_n, Option.bind_some, sm_0, sm_1, sm_2, sm_3, sm_4, sto_0, sto_1, sto_2, sto_3, sto_4, sto_5, sto_6, sto_7, sto_8, sto_9, sto_10, sto_11, sto_12, sto_13, sto_14, nlo_n, nlo_i, nlo_r, nlo_0, nlo_l, and_self, or_self, Nat.reduceEqDiff, Nat.reduceLT, Nat.reduceLeDiff, Nat.one_ne_zero, Nat.zero_ne_one, e1]
    | succ r ih =>
      intro k M hk
      have e1 : k < 78 := by omega
      have e2 : k < 250 := by omega
      obtain ⟨M', p1, p2, p3, p4⟩ := ih (k + 1) (j_up M (o + 4) k (M (o + 1) k)) (by omega)
      refine ⟨M', ?_, fun i h1 h2 => ?_, fun i hi => ?_, fun x hx => ?_⟩
      · rw [st_149_2]
        simp (disch := omega) only [st_149_0, st_149_1, st_149_3, st_149_5, st_149_8, st_149_9, st_149_12, st_149_13, st_149_14, st_149_17, st_149_18, st_149_19, st_149_20, st_149_23, st_149_26, ini_149, fs_cl, fs_len, fs_rf, fs_M, fs_put, fs_cpy, ↓reduceIte, rv_ref, true_or, or_true, true_and, and_true, nI_ltI, ix_nI, nI_clamp, ps_i, ps_n, Option.bind_some, sm_0, sm_1, sm_2, sm_3, sm_4, sto_0, sto_1, sto_2, sto_3, sto_4, sto_5, sto_6, sto_7, sto_8, sto_9, sto_10, sto_11, sto_12, sto_13, sto_14, nlo_n, nlo_i, nlo_r, nlo_0, nlo_l, and_self, or_self, Nat.reduceEqDiff, Nat.reduceLT, Nat.reduceLeDiff, Nat.one_ne_zero, Nat.zero_ne_one, m0, q0, q4, a1, a2, b1, b2, e1, e2, nI_add, p1]
      · by_cases e : i = k
        · subst e; rw [p3 i (by omega), up_s]
        · rw [p2 i (by omega) h2, up_o _ _ _ _ _ (by omega)]
      · rw [p3 i (by omega), up_k _ _ _ _ (by omega)]
      · rw [p4 x hx, up_r _ _ _ _ hx]
  obtain ⟨M', p1, p2, p3, p4⟩ := L 78 0 M (by omega)
  refine ⟨M', ?_, fun k hk => p2 k (by omega) hk, p4⟩
  rw [j_C_eq]
  simp only [st_149_0, st_149_1, st_149_3, st_149_5, st_149_8, st_149_9, st_149_12, st_149_13, st_149_14, st_149_17, st_149_18, st_149_19, st_149_20, st_149_23, st_149_26, ini_149, fs_cl, fs_len, fs_rf, fs_M, fs_put, fs_cpy, ↓reduceIte, rv_ref, true_or, or_true, true_and, and_true, nI_ltI, ix_nI, nI_clamp, ps_i, ps_n, Option.bind_some, sm_0, sm_1, sm_2, sm_3, sm_4, sto_0, sto_1, sto_2, sto_3, sto_4, sto_5, sto_6, sto_7, sto_8, sto_9, sto_10, sto_11, sto_12, sto_13, sto_14, nlo_n, nlo_i, nlo_r, nlo_0, nlo_l, and_self, or_self, Nat.reduceEqDiff, Nat.reduceLT, Nat.reduceLeDiff, Nat.one_ne_zero, Nat.zero_ne_one, p1]
theorem r150 (hk : Md h o) : ∃ M', j_C (d + 1) 150 [.ref o] (FS h M) = some (none, FS h M') ∧ (∀ k, k < 78 → M' (o + 1) k = M (o + 4) k) ∧ (∀ k, 78 ≤ k → M' (o + 1) k = M (o + 1) k) ∧ ∀ x, x ≠ o + 1 → M' x = M x := by
  obtain ⟨m0, ⟨q0, a1, a2, a3⟩, _, _, ⟨q4, b1, b2, b3⟩, _⟩ := id hk
  have L : ∀ r k (M : Nat → Nat → Int32), r + k = 78 → ∃ M', j_X d 150 2 [some (.ref o), some (.int (nI k))] [] (FS h M) = some (none, FS h M') ∧ (∀ i, k ≤ i → i < 78 → M' (o + 1) i = M (o + 4) i) ∧ (∀ i, i < k ∨ 78 ≤ i → M' (o + 1) i = M (o + 1) i) ∧ ∀ x, x ≠ o + 1 → M' x = M x := by
    intro r
    induction r with
    | zero =>
      intro k M hk
      have e1 : ¬ k < 78 := by omega
      refine ⟨M, ?_, fun i h1 h2 => by omega, fun _ _ => rfl, fun _ _ => rfl⟩
      rw [st_150_2]
      simp (disch := omega) only [st_150_0, st_150_1, st_150_3, st_150_5, st_150_8, st_150_9, st_150_12, st_150_13, st_150_14, st_150_17, st_150_18, st_150_19, st_150_20, st_150_23, st_150_26, ini_150, fs_cl, fs_len, fs_rf, fs_M, fs_put, fs_cpy, ↓reduceIte, rv_ref, true_or, or_true, true_and, and_true, nI_ltI, ix_nI, nI_clamp, ps_i, ps_n, Option.bind_some, sm_0, sm_1, sm_2, sm_3, sm_4, sto_0, sto_1, sto_2, sto_3, sto_4, sto_5, sto_6, sto_7, sto_8, sto_9, sto_10, sto_11, sto_12, sto_13, sto_14, nlo_n, nlo_i, nlo_r, nlo_0, nlo_l, and_self, or_self, Nat.reduceEqDiff, Nat.reduceLT, Nat.reduceLeDiff, Nat.one_ne_zero, Nat.zero_ne_one, e1]
    | succ r ih =>
      intro k M hk
      have e1 : k < 78 := by omega
      have e2 : k < 250 := by omega
      obtain ⟨M', p1, p2, p3, p4⟩ := ih (k + 1) (j_up M (o + 1) k (M (o + 4) k)) (by omega)
      refine ⟨M', ?_, fun i h1 h2 => ?_, fun i hi => ?_, fun x hx => ?_⟩
      · rw [st_150_2]
        simp (disch := omega) only [st_150_0, st_150_1, st_150_3, st_150_5, st_150_8, st_150_9, st_150_12, st_150_13, st_150_14, st_150_17, st_150_18, st_150_19, st_150_20, st_150_23, st_150_26, ini_150, fs_cl, fs_len, fs_rf, fs_M, fs_put, fs_cpy, ↓reduceIte, rv_ref, true_or, or_true, true_and, and_true, nI_ltI, ix_nI, nI_clamp, ps_i, ps_n, Option.bind_some, sm_0, sm_1, sm_2, sm_3, sm_4, sto_0, sto_1, sto_2, sto_3, sto_4, sto_5, sto_6, sto_7, sto_8, sto_9, sto_10, sto_11, sto_12, sto_13, sto_14, nlo_n, nlo_i, nlo_r, nlo_0, nlo_l, and_self, or_self, Nat.reduceEqDiff, Nat.reduceLT, Nat.reduceLeDiff, Nat.one_ne_zero, Nat.zero_ne_one, m0, q0, q4, a1, a2, b1, b2, e1, e2, nI_add, p1]
      · by_cases e : i = k
        · subst e; rw [p3 i (by omega), up_s]
        · rw [p2 i (by omega) h2, up_o _ _ _ _ _ (by omega)]
      · rw [p3 i (by omega), up_k _ _ _ _ (by omega)]
      · rw [p4 x hx, up_r _ _ _ _ hx]
  obtain ⟨M', p1, p2, p3, p4⟩ := L 78 0 M (by omega)
  refine ⟨M', ?_, fun k hk => p2 k (by omega) hk, fun k hk => p3 k (by omega), p4⟩
  rw [j_C_eq]
  simp only [st_150_0, st_150_1, st_150_3, st_150_5, st_150_8, st_150_9, st_150_12, st_150_13, st_150_14, st_150_17, st_150_18, st_150_19, st_150_20, st_150_23, st_150_26, ini_150, fs_cl, fs_len, fs_rf, fs_M, fs_put, fs_cpy, ↓reduceIte, rv_ref, true_or, or_true, true_and, and_true, nI_ltI, ix_nI, nI_clamp, ps_i, ps_n, Option.bind_some, sm_0, sm_1, sm_2, sm_3, sm_4, sto_0, sto_1, sto_2, sto_3, sto_4, sto_5, sto_6, sto_7, sto_8, sto_9, sto_10, sto_11, sto_12, sto_13, sto_14, nlo_n, nlo_i, nlo_r, nlo_0, nlo_l, and_self, or_self, Nat.reduceEqDiff, Nat.reduceLT, Nat.reduceLeDiff, Nat.one_ne_zero, Nat.zero_ne_one, p1]
theorem r167 (hk : Md h o) (hm : RLd M o E z) (hw : WE E) : j_C (d + 3) 167 [.ref o] (FS h M) = some (some (.int (nI (smS E (E 1)))), FS h M) := by
  have h8 := hw.2.1
  obtain ⟨m0, ⟨q0, a1, a2, a3⟩, _⟩ := id hk
  have g1 := hm.1 1 (by omega) (by omega)
  have L : ∀ r c, r + c = E 1 → j_X (d + 2) 167 4 [some (.ref o), some (.int (nI (smS E c))), some (.int (nI c))] [] (FS h M) = some (some (.int (nI (smS E (E 1)))), FS h M) := by
    intro r
    induction r with
    | zero =>
      intro c hc
      have e : c = E 1 := by omega
      have e1 : ¬ c < E 1 := by omega
      rw [st_167_4]
      simp (disch := omega) only [st_167_0, st_167_1, st_167_2, st_167_3, st_167_5, st_167_6, st_167_9, st_167_10, st_167_11, st_167_14, st_167_15, st_167_16, st_167_17, st_167_20, st_167_21, st_167_22, st_167_25, st_167_28, st_167_29, ini_167, fs_cl, fs_len, fs_rf, fs_M, fs_put, fs_cpy, ↓reduceIte, rv_ref, true_or, or_true, true_and, and_true, nI_ltI, ix_nI, nI_clamp, ps_i, ps_n, Option.bind_some, sm_0, sm_1, sm_2, sm_3, sm_4, sto_0, sto_1, sto_2, sto_3, sto_4, sto_5, sto_6, sto_7, sto_8, sto_9, sto_10, sto_11, sto_12, sto_13, sto_14, nlo_n, nlo_i, nlo_r, nlo_0, nlo_l, and_self, or_self, Nat.reduceEqDiff, Nat.reduceLT, Nat.reduceLeDiff, Nat.one_ne_zero, Nat.zero_ne_one, m0, q0, a1, a2, g1, e1]
      rw [e]
    | succ r ih =>
      intro c hc
      have e1 : c < E 1 := by omega
      have cv := hw.2.2.2.2.2.2.2 c e1
      have gn := r166 (d := d) hk hm (by omega : c < 8) cv.2.2.2
      have hX := ih (c + 1) (by omega)
      rw [smS] at hX
      rw [st_167_4]
      simp (disch := omega) only [st_167_0, st_167_1, st_167_2, st_167_3, st_167_5, st_167_6, st_167_9, st_167_10, st_167_11, st_167_14, st_167_15, st_167_16, st_167_17, st_167_20, st_167_21, st_167_22, st_167_25, st_167_28, st_167_29, ini_167, fs_cl, fs_len, fs_rf, fs_M, fs_put, fs_cpy, ↓reduceIte, rv_ref, true_or, or_true, true_and, and_true, nI_ltI, ix_nI, nI_clamp, ps_i, ps_n, Option.bind_some, sm_0, sm_1, sm_2, sm_3, sm_4, sto_0, sto_1, sto_2, sto_3, sto_4, sto_5, sto_6, sto_7, sto_8, sto_9, sto_10, sto_11, sto_12, sto_13, sto_14, nlo_n, nlo_i, nlo_r, nlo_0, nlo_l, and_self, or_self, Nat.reduceEqDiff, Nat.reduceLT, Nat.reduceLeDiff, Nat.one_ne_zero, Nat.zero_ne_one, m0, q0, a1, a2, g1, e1, gn, nI_add, hX]
  rw [j_C_eq]
  have hX := L (E 1) 0 (by omega)
  simp only [st_167_0, st_167_1, st_167_2, st_167_3, st_167_5, st_167_6, st_167_9, st_167_10, st_167_11, st_167_14, st_167_15, st_167_16, st_167_17, st_167_20, st_167_21, st_167_22, st_167_25, st_167_28, st_167_29, ini_167, fs_cl, fs_len, fs_rf, fs_M, fs_put, fs_cpy, ↓reduceIte, rv_ref, true_or, or_true, true_and, and_true, nI_ltI, ix_nI, nI_clamp, ps_i, ps_n, Option.bind_some, sm_0, sm_1, sm_2, sm_3, sm_4, sto_0, sto_1, sto_2, sto_3, sto_4, sto_5, sto_6, sto_7, sto_8, sto_9, sto_10, sto_11, sto_12, sto_13, sto_14, nlo_n, nlo_i, nlo_r, nlo_0, nlo_l, and_self, or_self, Nat.reduceEqDiff, Nat.reduceLT, Nat.reduceLeDiff, Nat.one_ne_zero, Nat.zero_ne_one]
  exact hX
theorem or_0 (x : Int32) : x ||| nI 0 = x := by rw [nI_0]; exact Int32.or_zero
theorem r175 (hk : Md h o) (hm : RLd M o E z) (hw : WE E) {t : Nat} (ht : t < 10) : j_C (d + 2) 175 [.ref o, .int (nI t)] (FS h M) = some (some (.int (hbS E t (E 1))), FS h M) := by
  have h8 := hw.2.1
  have h6 := hw.1
  obtain ⟨m0, ⟨q0, a1, a2, a3⟩, _⟩ := id hk
  have g1 := hm.1 1 (by omega) (by omega)
  have L : ∀ r c, r + c = E 1 → j_X (d + 1) 175 4 [some (.ref o), some (.int (nI t)), some (.int (hbS E t c)), some (.int (nI c))] [] (FS h M) = some (some (.int (hbS E t (E 1))), FS h M) := by
    intro r
    induction r with
    | zero =>
      intro c hc
      have e : c = E 1 := by omega
      have e1 : ¬ c < E 1 := by omega
      rw [st_175_4]
      simp (disch := omega) only [st_175_0, st_175_1, st_175_2, st_175_3, st_175_5, st_175_6, st_175_9, st_175_10, st_175_11, st_175_14, st_175_15, st_175_16, st_175_17, st_175_18, st_175_21, st_175_22, st_175_25, st_175_26, st_175_27, st_175_28, st_175_31, st_175_32, st_175_33, st_175_34, st_175_37, st_175_40, st_175_41, ini_175, fs_cl, fs_len, fs_rf, fs_M, fs_put, fs_cpy, ↓reduceIte, rv_ref, true_or, or_true, true_and, and_true, nI_ltI, ix_nI, nI_clamp, ps_i, ps_n, Option.bind_some, sm_0, sm_1, sm_2, sm_3, sm_4, sto_0, sto_1, sto_2, sto_3, sto_4, sto_5, sto_6, sto_7, sto_8, sto_9, sto_10, sto_11, sto_12, sto_13, sto_14, nlo_n, nlo_i, nlo_r, nlo_0, nlo_l, and_self, or_self, Nat.reduceEqDiff, Nat.reduceLT, Nat.reduceLeDiff, Nat.one_ne_zero, Nat.zero_ne_one, m0, q0, a1, a2, g1, e1]
      rw [e]
    | succ r ih =>
      intro c hc
      have e1 : c < E 1 := by omega
      have cv := hw.2.2.2.2.2.2.2 c e1
      have ch := cv.2.2.1
      have gh := r148 (d := d) (M := M) hk (t := c) (k := 1) (by omega)
      rw [show 38 + 5 * c + 1 = 39 + 5 * c by omega, hm.1 _ (by omega) (by omega)] at gh
      have hX := ih (c + 1) (by omega)
      rw [hbS] at hX
      rw [st_175_4]
      by_cases e : E (39 + 5 * c) = t
      · rw [if_pos e] at hX
        simp (disch := omega) only [st_175_0, st_175_1, st_175_2, st_175_3, st_175_5, st_175_6, st_175_9, st_175_10, st_175_11, st_175_14, st_175_15, st_175_16, st_175_17, st_175_18, st_175_21, st_175_22, st_175_25, st_175_26, st_175_27, st_175_28, st_175_31, st_175_32, st_175_33, st_175_34, st_175_37, st_175_40, st_175_41, ini_175, fs_cl, fs_len, fs_rf, fs_M, fs_put, fs_cpy, ↓reduceIte, rv_ref, true_or, or_true, true_and, and_true, nI_ltI, ix_nI, nI_clamp, ps_i, ps_n, Option.bind_some, sm_0, sm_1, sm_2, sm_3, sm_4, sto_0, sto_1, sto_2, sto_3, sto_4, sto_5, sto_6, sto_7, sto_8, sto_9, sto_10, sto_11, sto_12, sto_13, sto_14, nlo_n, nlo_i, nlo_r, nlo_0, nlo_l, and_self, or_self, Nat.reduceEqDiff, Nat.reduceLT, Nat.reduceLeDiff, Nat.one_ne_zero, Nat.zero_ne_one, m0, q0, a1, a2, g1, e1, gh, eq_true e, nI_eq, nI_add, hX]
      · rw [if_neg e] at hX
        simp (disch := omega) only [st_175_0, st_175_1, st_175_2, st_175_3, st_175_5, st_175_6, st_175_9, st_175_10, st_175_11, st_175_14, st_175_15, st_175_16, st_175_17, st_175_18, st_175_21, st_175_22, st_175_25, st_175_26, st_175_27, st_175_28, st_175_31, st_175_32, st_175_33, st_175_34, st_175_37, st_175_40, st_175_41, ini_175, fs_cl, fs_len, fs_rf, fs_M, fs_put, fs_cpy, ↓reduceIte, rv_ref, true_or, or_true, true_and, and_true, nI_ltI, ix_nI, nI_clamp, ps_i, ps_n, Option.bind_some, sm_0, sm_1, sm_2, sm_3, sm_4, sto_0, sto_1, sto_2, sto_3, sto_4, sto_5, sto_6, sto_7, sto_8, sto_9, sto_10, sto_11, sto_12, sto_13, sto_14, nlo_n, nlo_i, nlo_r, nlo_0, nlo_l, and_self, or_self, Nat.reduceEqDiff, Nat.reduceLT, Nat.reduceLeDiff, Nat.one_ne_zero, Nat.zero_ne_one, m0, q0, a1, a2, g1, e1, gh, e, nI_eq, nI_add, or_0, hX]
  rw [j_C_eq]
  have hX := L (E 1) 0 (by omega)
  simp only [st_175_0, st_175_1, st_175_2, st_175_3, st_175_5, st_175_6, st_175_9, st_175_10, st_175_11, st_175_14, st_175_15, st_175_16, st_175_17, st_175_18, st_175_21, st_175_22, st_175_25, st_175_26, st_175_27, st_175_28, st_175_31, st_175_32, st_175_33, st_175_34, st_175_37, st_175_40, st_175_41, ini_175, fs_cl, fs_len, fs_rf, fs_M, fs_put, fs_cpy, ↓reduceIte, rv_ref, true_or, or_true, true_and, and_true, nI_ltI, ix_nI, nI_clamp, ps_i, ps_n, Option.bind_some, sm_0, sm_1, sm_2, sm_3, sm_4, sto_0, sto_1, sto_2, sto_3, sto_4, sto_5, sto_6, sto_7, sto_8, sto_9, sto_10, sto_11, sto_12, sto_13, sto_14, nlo_n, nlo_i, nlo_r, nlo_0, nlo_l, and_self, or_self, Nat.reduceEqDiff, Nat.reduceLT, Nat.reduceLeDiff, Nat.one_ne_zero, Nat.zero_ne_one]
  exact hX
theorem r188 (hk : Md h o) {n : Nat} (hn : n ≤ 1000) : ∀ r k (E : Nat → Nat) (M : Nat → Nat → Int32), RLd M o E z → WE E → E 2 + r < 100000 → r + k = n → ∃ M', j_X (d + 4) 188 2 [some (.ref o), some (.int (nI n)), some (.int (nI k))] [] (FS h M) = some (none, FS h M') ∧ RLd M' o (dyN r E) z ∧ ld o M M' := by
  intro r
  induction r with
  | zero =>
    intro k E M hm hw hd hr
    have e1 : ¬ k < n := by omega
    refine ⟨M, ?_, hm, ld_r⟩
    rw [st_188_2]
    simp (disch := omega) only [st_188_0, st_188_1, st_188_3, st_188_4, st_188_7, st_188_8, st_188_11, st_188_14, st_188_17, ini_188, fs_cl, fs_len, fs_rf, fs_M, fs_put, fs_cpy, ↓reduceIte, rv_ref, true_or, or_true, true_and, and_true, nI_ltI, ix_nI, nI_clamp, ps_i, ps_n, Option.bind_some, sm_0, sm_1, sm_2, sm_3, sm_4, sto_0, sto_1, sto_2, sto_3, sto_4, sto_5, sto_6, sto_7, sto_8, sto_9, sto_10, sto_11, sto_12, sto_13, sto_14, nlo_n, nlo_i, nlo_r, nlo_0, nlo_l, and_self, or_self, Nat.reduceEqDiff, Nat.reduceLT, Nat.reduceLeDiff, Nat.one_ne_zero, Nat.zero_ne_one, e1]
  | succ r ih =>
    intro k E M hm hw hd hr
    have e1 : k < n := by omega
    obtain ⟨M1, p1, p2, p3⟩ := r187 (d := d) hk hm hw (by omega)
    obtain ⟨M', q1, q2, q3⟩ := ih (k + 1) (dayE E) M1 p2 (dayE_WE hw (by omega)) (by rw [dayE_2]; omega) (by omega)
    refine ⟨M', ?_, ?_, ld_t p3 q3⟩
    · rw [st_188_2]
      simp (disch := omega) only [st_188_0, st_188_1, st_188_3, st_188_4, st_188_7, st_188_8, st_188_11, st_188_14, st_188_17, ini_188, fs_cl, fs_len, fs_rf, fs_M, fs_put, fs_cpy, ↓reduceIte, rv_ref, true_or, or_true, true_and, and_true, nI_ltI, ix_nI, nI_clamp, ps_i, ps_n, Option.bind_some, sm_0, sm_1, sm_2, sm_3, sm_4, sto_0, sto_1, sto_2, sto_3, sto_4, sto_5, sto_6, sto_7, sto_8, sto_9, sto_10, sto_11, sto_12, sto_13, sto_14, nlo_n, nlo_i, nlo_r, nlo_0, nlo_l, and_self, or_self, Nat.reduceEqDiff, Nat.reduceLT, Nat.reduceLeDiff, Nat.one_ne_zero, Nat.zero_ne_one, hk.1, e1, p1, nI_add, q1]
    · exact q2
theorem RLd_z (hm : RLd M o E z) (v : Int32) : RLd (j_up M (o + 1) 5 v) o E v :=
  ⟨fun k hk h5 => by rw [up_k _ _ _ _ h5]; exact hm.1 k hk h5, up_s _ _ _⟩
theorem r190 (hk : Md h o) (hm : RLd M o E z) : j_C (d + 1) 190 [.ref o] (FS h M) = some (some (.int (nI (drn z))), FS h (j_up M (o + 1) 5 (drz z))) := by
  obtain ⟨m0, ⟨q0, a1, a2, a3⟩, _⟩ := id hk
  have e := drn_eq z
  have e5 : 5 < 250 := by omega
  have g := hm.2
  unfold drz at e
  unfold drz
  rw [j_C_eq]
  simp (disch := omega) only [st_190_0, st_190_1, st_190_4, st_190_5, st_190_6, st_190_9, st_190_10, st_190_11, st_190_13, st_190_14, st_190_17, st_190_18, st_190_19, st_190_20, st_190_23, st_190_24, st_190_25, st_190_27, st_190_28, ini_190, fs_cl, fs_len, fs_rf, fs_M, fs_put, fs_cpy, ↓reduceIte, rv_ref, true_or, or_true, true_and, and_true, nI_ltI, ix_nI, nI_clamp, ps_i, ps_n, Option.bind_some, sm_0, sm_1, sm_2, sm_3, sm_4, sto_0, sto_1, sto_2, sto_3, sto_4, sto_5, sto_6, sto_7, sto_8, sto_9, sto_10, sto_11, sto_12, sto_13, sto_14, nlo_n, nlo_i, nlo_r, nlo_0, nlo_l, and_self, or_self, Nat.reduceEqDiff, Nat.reduceLT, Nat.reduceLeDiff, Nat.one_ne_zero, Nat.zero_ne_one, m0, q0, a1, a2, g, e5, up_s, e]
